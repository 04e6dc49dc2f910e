set_option maxHeartbeats 4000000 in
set_option maxRecDepth 100000 in
theorem law_case_8 {p : Program} {e : Env} {s : State} {m : MethodId} {below : List Frame} {meth : Method} {c : Code} (l : Launch) {b LN : Nat} {xs : Nat → Int32} (hx : p.tables.exec = Jvm.exec) (hb : c.code = code) (hr : meth.sig.returnType = ret) (hlocks : meth.locks = false) (hml : c.maxLocals = 4) (hown : s.vm.findClass "SmallCourtLaw" = some m.cls) (hts : ∀ w ∈ hx_all, w.before #[Value.ref b] s = true) (hX : va_X b LN xs s s.heap) (hbl : b < s.heap.size) (hbA : ¬ s.heap.size ≤ b) (hLN : LN ≤ 3584) (dC : Nat → ClassId) (dI : Nat → Nat → Nat) (dA : Nat → ClassId) (b0 : hx_z) (ax am : Nat) (T1 : Int) (hT0 : 0 ≤ T1) (hT1 : T1 ≤ 511) (i : Int32) (hi0 : 0 ≤ i.toInt) (hiL : i.toInt + 7 ≤ LN) (CC SS : Nat) (hCC : CC + 3 ≤ 600000) (hSS : SS + 179 ≤ 7302250) (L1 : List Nat) (hl1 : hx_h) (H : Heap) (locs : List Loc) (ls : Array Slot) (hW : hx_W T_tb (P_ty dA) (dC, dI) vwCl (fun q : Nat => s.heap.size ≤ q) s.heap L1 hl1 s H locs) (hZ : hx_Xt (fun q : Nat => s.heap.size ≤ q) b0 s) (hI : hx_IV T1 ax am L1 hl1) (hl : lv_has ls 4 [(3, .int i), (2, .ref am), (1, .ref ax), (0, .ref b)]) (kk : ∀ (L2 : List Nat) (h2 : hx_h) (H2 : Heap) (locs2 : List Loc) (ls2 : Array Slot), hx_W T_tb (P_ty dA) (dC, dI) vwCl (fun q : Nat => s.heap.size ≤ q) s.heap L2 h2 s H2 locs2 → hx_IV (T1 + 1) ax am L2 h2 → lv_has ls2 4 [(3, .int i), (2, .ref am), (1, .ref ax), (0, .ref b)] → W p l e room_1 s m #[Value.ref b] below meth c H2 locs2 (CC + 3) (SS + 179) (lw_Z below #[Value.ref b] s) (F0 m 1379 ls2 [])) : W p l e room_1 s m #[Value.ref b] below meth c H locs CC SS (lw_Z below #[Value.ref b] s) (F0 m 498 ls []) := by
  obtain ⟨hT, gx, gm, ⟨he_nw, he_np, -⟩, ⟨ia, ip, ic, ih, il⟩, ⟨jw, jr, jp, jl, jh, jt⟩⟩ := hI
  obtain ⟨qa, f_qa, g_qa⟩ := hx_rf hT gx tt_9 (k := 5) (u := 43) rfl
  have pf_qa := ia qa f_qa
  obtain ⟨qp, f_qp, g_qp⟩ := hx_rf hT gx tt_9 (k := 7) (u := 44) rfl
  have pf_qp := ip qp f_qp
  obtain ⟨qc, f_qc, g_qc⟩ := hx_rf hT gx tt_9 (k := 10) (u := 45) rfl
  have pf_qc := ic qc f_qc
  obtain ⟨qh, f_qh, g_qh⟩ := hx_rf hT gx tt_9 (k := 12) (u := 46) rfl
  have pf_qh := ih qh f_qh
  obtain ⟨qw, f_qw, g_qw⟩ := hx_rf hT gx tt_9 (k := 19) (u := 8) rfl
  obtain ⟨ql, f_ql, g_ql⟩ := hx_rf hT g_qw tt_8 (k := 3) (u := 40) rfl
  have pf_ql := il qw ql f_qw f_ql
  obtain ⟨nw, f_m_now⟩ : ∃ y : Int32, hl1.2.1 am 0 = y := ⟨_, rfl⟩
  have b_nw := hT.gi gm tt_10 (k := 0) rfl
  rw [f_m_now] at b_nw
  have b_nw : 0 ≤ nw.toInt ∧ nw.toInt ≤ 7999 := b_nw
  obtain ⟨np, f_m_persons⟩ : ∃ y : Int32, hl1.2.1 am 20 = y := ⟨_, rfl⟩
  have b_np := hT.gi gm tt_10 (k := 20) rfl
  rw [f_m_persons] at b_np
  have b_np : 0 ≤ np.toInt ∧ np.toInt ≤ 40 := b_np
  obtain ⟨a0, f_m_acts⟩ : ∃ y : Int32, hl1.2.1 am 1 = y := ⟨_, rfl⟩
  have b_a0 := hT.gi gm tt_10 (k := 1) rfl
  rw [f_m_acts] at b_a0
  have b_a0 : 0 ≤ a0.toInt ∧ a0.toInt ≤ 8 := b_a0
  obtain ⟨c0, f_m_claims⟩ : ∃ y : Int32, hl1.2.1 am 36 = y := ⟨_, rfl⟩
  have b_c0 := hT.gi gm tt_10 (k := 36) rfl
  rw [f_m_claims] at b_c0
  have b_c0 : 0 ≤ c0.toInt ∧ c0.toInt ≤ 100 := b_c0
  obtain ⟨m0, f_m_heardMany⟩ : ∃ y : Int32, hl1.2.1 am 57 = y := ⟨_, rfl⟩
  have b_m0 := hT.gi gm tt_10 (k := 57) rfl
  rw [f_m_heardMany] at b_m0
  have b_m0 : 0 ≤ m0.toInt ∧ m0.toInt ≤ 100 := b_m0
  have f_x_now : hl1.2.1 ax 2 = nw := he_nw.trans f_m_now
  have f_x_personCount : hl1.2.1 ax 8 = np := he_np.trans f_m_persons
  obtain ⟨mw, f_mw, g_mw⟩ := hx_rf hT gm tt_10 (k := 19) (u := 57) rfl
  obtain ⟨F_mw, n_mw⟩ : ∃ g : Nat → Int32, hl1.2.1 mw = g := ⟨_, rfl⟩
  obtain ⟨mr, f_mr, g_mr⟩ := hx_rf hT gm tt_10 (k := 3) (u := 50) rfl
  obtain ⟨F_mr, n_mr⟩ : ∃ g : Nat → Int32, hl1.2.1 mr = g := ⟨_, rfl⟩
  obtain ⟨mp, f_mp, g_mp⟩ := hx_rf hT gm tt_10 (k := 5) (u := 52) rfl
  obtain ⟨F_mp, n_mp⟩ : ∃ g : Nat → Int32, hl1.2.1 mp = g := ⟨_, rfl⟩
  obtain ⟨mn, f_mn, g_mn⟩ := hx_rf hT gm tt_10 (k := 4) (u := 51) rfl
  obtain ⟨F_mn, n_mn⟩ : ∃ g : Nat → Int32, hl1.2.1 mn = g := ⟨_, rfl⟩
  obtain ⟨ml, f_ml, g_ml⟩ := hx_rf hT gm tt_10 (k := 44) (u := 79) rfl
  obtain ⟨F_ml, n_ml⟩ : ∃ g : Nat → Int32, hl1.2.1 ml = g := ⟨_, rfl⟩
  obtain ⟨mh, f_mh, g_mh⟩ := hx_rf hT gm tt_10 (k := 47) (u := 82) rfl
  obtain ⟨F_mh, n_mh⟩ : ∃ g : Nat → Int32, hl1.2.1 mh = g := ⟨_, rfl⟩
  obtain ⟨mt, f_mt, g_mt⟩ := hx_rf hT gm tt_10 (k := 45) (u := 80) rfl
  obtain ⟨F_mt, n_mt⟩ : ∃ g : Nat → Int32, hl1.2.1 mt = g := ⟨_, rfl⟩
  have hwd := jw mw f_mw; rw [n_mw] at hwd
  have hWK := jr mr f_mr; rw [n_mr, f_m_acts] at hWK
  have hRP := jp mp mn f_mp f_mn; rw [n_mp, n_mn, f_m_acts] at hRP
  have hPL := jl ml f_ml; rw [n_ml, f_m_claims, f_m_acts] at hPL
  have hHC := jh mh f_mh; rw [n_mh, f_m_heardMany, f_m_claims] at hHC
  have hTR := jt mt f_mt; rw [n_mt] at hTR
  refine lv_aload_n hx hb dL_law_498 rfl (lv_at hl 2 rfl) ?_
  refine lv_aload_n hx hb dL_law_499 rfl (lv_at hl 3 rfl) ?_
  refine lv_iload_n hx hb dL_law_500 rfl (lv_at hl 0 rfl) ?_
  refine lv_iconst (v := 1) hx hb dL_law_501 (by decide) ?_
  refine lv_iadd hx hb dL_law_502 ?_
  have rg_196 := i32_r i
  refine lv_topi (fun x_197 ex_197 => ?_)
  have zx_197 : x_197.toInt = i.toInt + 1 := by rw [ex_197]; exact i32_add rfl (by decide) (by omega) (by omega)
  refine va_sld hx hb hX hbl hbA hW.2.2.2.1 (vp_in_iff.mpr ⟨by omega, by omega⟩) dL_law_503 ?_
  refine lv_topi (fun x_198 ex_198 => ?_)
  refine lv_aload_n hx hb dL_law_504 rfl (lv_at hl 3 rfl) ?_
  refine lv_iload_n hx hb dL_law_505 rfl (lv_at hl 0 rfl) ?_
  refine lv_iconst (v := 2) hx hb dL_law_506 (by decide) ?_
  refine lv_iadd hx hb dL_law_507 ?_
  refine lv_topi (fun x_199 ex_199 => ?_)
  have zx_199 : x_199.toInt = i.toInt + 2 := by rw [ex_199]; exact i32_add rfl (by decide) (by omega) (by omega)
  refine va_sld hx hb hX hbl hbA hW.2.2.2.1 (vp_in_iff.mpr ⟨by omega, by omega⟩) dL_law_508 ?_
  refine lv_topi (fun x_200 ex_200 => ?_)
  have jn_517 : ∀ (xj_201 : Int32) (ls : Array Slot), 0 ≤ xj_201.toInt → xj_201.toInt ≤ 1 → lv_has ls 4 [(3, .int i), (2, .ref am), (1, .ref ax), (0, .ref b)] → W p l e room_1 s m #[Value.ref b] below meth c H locs (CC) (SS) (lw_Z below #[Value.ref b] s) (F0 m 517 ls [.int xj_201, .int x_198, .ref ax]) := by
    intro xj_201 ls blxj_201 buxj_201 hl
    refine hx_goi (hx_runV (As := [.int x_198, .int xj_201]) (rest := []) ⟨hx, hb, hml, hown, hts⟩ hW gx tt_9 (T := TX9) (N := 20) rfl (t_X9_judge l dC dI dA L1 hl1 H.size ax x_198 xj_201 hT gx (by omega) qp g_qp f_qp pf_qp) (cwV 2 hts (hx_gV kw_667 kw_664 kw_665 kw_666 kw_94) rfl rfl rfl (by decide +kernel) ⟨Nat.le_of_ble_eq_true rfl, Nat.le_of_ble_eq_true rfl⟩) rfl hl.1 rfl (Nat.le_of_ble_eq_true rfl) dL_law_517 ⟨(show CC + 0 ≤ 600000 from by omega), (show SS + 0 ≤ 7302250 from by omega)⟩) hW (fun r_204 L_202 h_203 H locs p_205 hW => ?_)
    obtain ⟨hr_206, hT, hs⟩ := p_205
    have hT : hx_T T_tb L_202 h_203 := hT
    have hs : hx_S T_tb [(4, 8), (4, 9)] L1 hl1 L_202 h_203 := hs
    have f_qa := (hs.o gx trivial rfl).2.trans f_qa
    have f_qp := (hs.o gx trivial rfl).2.trans f_qp
    have f_qc := (hs.o gx trivial rfl).2.trans f_qc
    have f_qh := (hs.o gx trivial rfl).2.trans f_qh
    have f_qw := (hs.o gx trivial rfl).2.trans f_qw
    have f_ql := (hs.o g_qw trivial rfl).2.trans f_ql
    have f_m_now := (hs.o gm trivial rfl).1.trans f_m_now
    have f_m_persons := (hs.o gm trivial rfl).1.trans f_m_persons
    have f_m_acts := (hs.o gm trivial rfl).1.trans f_m_acts
    have f_m_claims := (hs.o gm trivial rfl).1.trans f_m_claims
    have f_m_heardMany := (hs.o gm trivial rfl).1.trans f_m_heardMany
    have f_x_now := (hs.o gx trivial rfl).1.trans f_x_now
    have f_x_personCount := (hs.o gx trivial rfl).1.trans f_x_personCount
    have f_mw := (hs.o gm trivial rfl).2.trans f_mw
    have f_mr := (hs.o gm trivial rfl).2.trans f_mr
    have f_mp := (hs.o gm trivial rfl).2.trans f_mp
    have f_mn := (hs.o gm trivial rfl).2.trans f_mn
    have f_ml := (hs.o gm trivial rfl).2.trans f_ml
    have f_mh := (hs.o gm trivial rfl).2.trans f_mh
    have f_mt := (hs.o gm trivial rfl).2.trans f_mt
    have pf_qa : ∀ j : Nat, (j : Int) < (h_203.2.1 ax 6).toInt → h_203.2.2 qa j ≠ none := by
      intro j hj; rw [(hs.o gx trivial rfl).1] at hj; rw [(hs.a g_qa rfl j).2]; exact pf_qa j hj
    have pf_qp : ∀ j : Nat, (j : Int) < (h_203.2.1 ax 8).toInt → h_203.2.2 qp j ≠ none := by
      intro j hj; rw [(hs.o gx trivial rfl).1] at hj; rw [(hs.a g_qp rfl j).2]; exact pf_qp j hj
    have pf_qc : ∀ j : Nat, (j : Int) < (h_203.2.1 ax 11).toInt → h_203.2.2 qc j ≠ none := by
      intro j hj; rw [(hs.o gx trivial rfl).1] at hj; rw [(hs.a g_qc rfl j).2]; exact pf_qc j hj
    have pf_qh : ∀ j : Nat, (j : Int) < (h_203.2.1 ax 13).toInt → h_203.2.2 qh j ≠ none := by
      intro j hj; rw [(hs.o gx trivial rfl).1] at hj; rw [(hs.a g_qh rfl j).2]; exact pf_qh j hj
    have pf_ql : ∀ j : Nat, (j : Int) < (h_203.2.1 qw 0).toInt → h_203.2.2 ql j ≠ none := by
      intro j hj; rw [(hs.o g_qw trivial rfl).1] at hj; rw [(hs.a g_ql rfl j).2]; exact pf_ql j hj
    have n_mw : h_203.2.1 mw = F_mw := (funext fun j => (hs.a g_mw rfl j).1).trans n_mw
    have n_mr : h_203.2.1 mr = F_mr := (funext fun j => (hs.a g_mr rfl j).1).trans n_mr
    have n_mp : h_203.2.1 mp = F_mp := (funext fun j => (hs.a g_mp rfl j).1).trans n_mp
    have n_mn : h_203.2.1 mn = F_mn := (funext fun j => (hs.a g_mn rfl j).1).trans n_mn
    have n_ml : h_203.2.1 ml = F_ml := (funext fun j => (hs.a g_ml rfl j).1).trans n_ml
    have n_mh : h_203.2.1 mh = F_mh := (funext fun j => (hs.a g_mh rfl j).1).trans n_mh
    have n_mt : h_203.2.1 mt = F_mt := (funext fun j => (hs.a g_mt rfl j).1).trans n_mt
    have gx := gx.S hs
    have gm := gm.S hs
    have g_qa := g_qa.S hs
    have g_qp := g_qp.S hs
    have g_qc := g_qc.S hs
    have g_qh := g_qh.S hs
    have g_qw := g_qw.S hs
    have g_ql := g_ql.S hs
    have g_mw := g_mw.S hs
    have g_mr := g_mr.S hs
    have g_mp := g_mp.S hs
    have g_mn := g_mn.S hs
    have g_ml := g_ml.S hs
    have g_mh := g_mh.S hs
    have g_mt := g_mt.S hs
    refine lv_pop hx hb dL_law_520 rfl ?_
    refine lv_aload_n hx hb dL_law_521 rfl (lv_at hl 1 rfl) ?_
    refine lv_aload_n hx hb dL_law_522 rfl (lv_at hl 3 rfl) ?_
    refine lv_iload_n hx hb dL_law_523 rfl (lv_at hl 0 rfl) ?_
    refine lv_iconst (v := 1) hx hb dL_law_524 (by decide) ?_
    refine lv_iadd hx hb dL_law_525 ?_
    refine lv_topi (fun x_207 ex_207 => ?_)
    have zx_207 : x_207.toInt = i.toInt + 1 := by rw [ex_207]; exact i32_add rfl (by decide) (by omega) (by omega)
    obtain rfl : x_197 = x_207 := ex_197.trans ex_207.symm
    refine va_sld hx hb hX hbl hbA hW.2.2.2.1 (vp_in_iff.mpr ⟨by omega, by omega⟩) dL_law_526 ?_
    refine lv_topi (fun x_208 ex_208 => ?_)
    obtain rfl : x_198 = x_208 := ex_198.trans ex_208.symm
    refine lv_aload_n hx hb dL_law_527 rfl (lv_at hl 3 rfl) ?_
    refine lv_iload_n hx hb dL_law_528 rfl (lv_at hl 0 rfl) ?_
    refine lv_iconst (v := 2) hx hb dL_law_529 (by decide) ?_
    refine lv_iadd hx hb dL_law_530 ?_
    refine lv_topi (fun x_209 ex_209 => ?_)
    have zx_209 : x_209.toInt = i.toInt + 2 := by rw [ex_209]; exact i32_add rfl (by decide) (by omega) (by omega)
    obtain rfl : x_199 = x_209 := ex_199.trans ex_209.symm
    refine va_sld hx hb hX hbl hbA hW.2.2.2.1 (vp_in_iff.mpr ⟨by omega, by omega⟩) dL_law_531 ?_
    refine lv_topi (fun x_210 ex_210 => ?_)
    obtain rfl : x_200 = x_210 := ex_200.trans ex_210.symm
    have jn_540 : ∀ (xj_211 : Int32) (ls : Array Slot), 0 ≤ xj_211.toInt → xj_211.toInt ≤ 1 → lv_has ls 4 [(3, .int i), (2, .ref am), (1, .ref ax), (0, .ref b)] → W p l e room_1 s m #[Value.ref b] below meth c H locs (CC + 0) (SS + 0) (lw_Z below #[Value.ref b] s) (F0 m 540 ls [.int xj_211, .int x_198, .ref am]) := by
      intro xj_211 ls blxj_211 buxj_211 hl
      refine hx_goi (hx_runV (As := [.int x_198, .int xj_211]) (rest := []) ⟨hx, hb, hml, hown, hts⟩ hW gm tt_10 (T := TX10) (N := 98) rfl (t_X10_judge l dC dI dA L_202 h_203 H.size am x_198 xj_211 hT gm) (cwV 2 hts (hx_gV kw_1560 kw_1557 kw_1558 kw_1559 kw_103) rfl rfl rfl (by decide +kernel) ⟨Nat.le_of_ble_eq_true rfl, Nat.le_of_ble_eq_true rfl⟩) rfl hl.1 rfl (Nat.le_of_ble_eq_true rfl) dL_law_540 ⟨(show CC + 0 + 0 ≤ 600000 from by omega), (show SS + 0 + 0 ≤ 7302250 from by omega)⟩) hW (fun r_214 L_212 h_213 H locs p_215 hW => ?_)
      obtain ⟨hr_216, hT, hs⟩ := p_215
      have hT : hx_T T_tb L_212 h_213 := hT
      have hs : hx_S T_tb [(65, 0)] L_202 h_203 L_212 h_213 := hs
      have f_qa := (hs.o gx trivial rfl).2.trans f_qa
      have f_qp := (hs.o gx trivial rfl).2.trans f_qp
      have f_qc := (hs.o gx trivial rfl).2.trans f_qc
      have f_qh := (hs.o gx trivial rfl).2.trans f_qh
      have f_qw := (hs.o gx trivial rfl).2.trans f_qw
      have f_ql := (hs.o g_qw trivial rfl).2.trans f_ql
      have f_m_now := (hs.o gm trivial rfl).1.trans f_m_now
      have f_m_persons := (hs.o gm trivial rfl).1.trans f_m_persons
      have f_m_acts := (hs.o gm trivial rfl).1.trans f_m_acts
      have f_m_claims := (hs.o gm trivial rfl).1.trans f_m_claims
      have f_m_heardMany := (hs.o gm trivial rfl).1.trans f_m_heardMany
      have f_x_now := (hs.o gx trivial rfl).1.trans f_x_now
      have f_x_personCount := (hs.o gx trivial rfl).1.trans f_x_personCount
      have f_mw := (hs.o gm trivial rfl).2.trans f_mw
      have f_mr := (hs.o gm trivial rfl).2.trans f_mr
      have f_mp := (hs.o gm trivial rfl).2.trans f_mp
      have f_mn := (hs.o gm trivial rfl).2.trans f_mn
      have f_ml := (hs.o gm trivial rfl).2.trans f_ml
      have f_mh := (hs.o gm trivial rfl).2.trans f_mh
      have f_mt := (hs.o gm trivial rfl).2.trans f_mt
      have pf_qa : ∀ j : Nat, (j : Int) < (h_213.2.1 ax 6).toInt → h_213.2.2 qa j ≠ none := by
        intro j hj; rw [(hs.o gx trivial rfl).1] at hj; rw [(hs.a g_qa rfl j).2]; exact pf_qa j hj
      have pf_qp : ∀ j : Nat, (j : Int) < (h_213.2.1 ax 8).toInt → h_213.2.2 qp j ≠ none := by
        intro j hj; rw [(hs.o gx trivial rfl).1] at hj; rw [(hs.a g_qp rfl j).2]; exact pf_qp j hj
      have pf_qc : ∀ j : Nat, (j : Int) < (h_213.2.1 ax 11).toInt → h_213.2.2 qc j ≠ none := by
        intro j hj; rw [(hs.o gx trivial rfl).1] at hj; rw [(hs.a g_qc rfl j).2]; exact pf_qc j hj
      have pf_qh : ∀ j : Nat, (j : Int) < (h_213.2.1 ax 13).toInt → h_213.2.2 qh j ≠ none := by
        intro j hj; rw [(hs.o gx trivial rfl).1] at hj; rw [(hs.a g_qh rfl j).2]; exact pf_qh j hj
      have pf_ql : ∀ j : Nat, (j : Int) < (h_213.2.1 qw 0).toInt → h_213.2.2 ql j ≠ none := by
        intro j hj; rw [(hs.o g_qw trivial rfl).1] at hj; rw [(hs.a g_ql rfl j).2]; exact pf_ql j hj
      have n_mw : h_213.2.1 mw = F_mw := (funext fun j => (hs.a g_mw rfl j).1).trans n_mw
      have n_mr : h_213.2.1 mr = F_mr := (funext fun j => (hs.a g_mr rfl j).1).trans n_mr
      have n_mp : h_213.2.1 mp = F_mp := (funext fun j => (hs.a g_mp rfl j).1).trans n_mp
      have n_mn : h_213.2.1 mn = F_mn := (funext fun j => (hs.a g_mn rfl j).1).trans n_mn
      have n_ml : h_213.2.1 ml = F_ml := (funext fun j => (hs.a g_ml rfl j).1).trans n_ml
      have n_mh : h_213.2.1 mh = F_mh := (funext fun j => (hs.a g_mh rfl j).1).trans n_mh
      have n_mt : h_213.2.1 mt = F_mt := (funext fun j => (hs.a g_mt rfl j).1).trans n_mt
      have gx := gx.S hs
      have gm := gm.S hs
      have g_qa := g_qa.S hs
      have g_qp := g_qp.S hs
      have g_qc := g_qc.S hs
      have g_qh := g_qh.S hs
      have g_qw := g_qw.S hs
      have g_ql := g_ql.S hs
      have g_mw := g_mw.S hs
      have g_mr := g_mr.S hs
      have g_mp := g_mp.S hs
      have g_mn := g_mn.S hs
      have g_ml := g_ml.S hs
      have g_mh := g_mh.S hs
      have g_mt := g_mt.S hs
      refine lv_pop hx hb dL_law_543 rfl ?_
      refine lv_goto (tgt := 1379) hx hb dL_law_544 (by decide) ?_
      refine W.widen (k := CC + 3) (n := SS + 179) (by omega) (by omega) ?_
      exact kk L_212 h_213 H locs ls hW ⟨hT, gx, gm, ⟨f_x_now.trans f_m_now.symm, f_x_personCount.trans f_m_persons.symm, trivial⟩, ⟨hx_ob f_qa pf_qa, hx_ob f_qp pf_qp, hx_ob f_qc pf_qc, hx_ob f_qh pf_qh, (fun w q hw hq => by obtain rfl : qw = w := Option.some.inj (f_qw.symm.trans hw); obtain rfl : ql = q := Option.some.inj (f_ql.symm.trans hq); exact pf_ql)⟩, ⟨hx_ob f_mw (by rw [n_mw]; exact hwd), hx_ob f_mr (by rw [n_mr, f_m_acts]; exact hWK), hx_ob2 f_mp f_mn (by rw [n_mp, n_mn, f_m_acts]; exact hRP), hx_ob f_ml (by rw [n_ml, f_m_claims, f_m_acts]; exact hPL), hx_ob f_mh (by rw [n_mh, f_m_heardMany, f_m_claims]; exact hHC), hx_ob f_mt (by rw [n_mt]; exact (hx_TR_le hTR (by omega)))⟩⟩ hl
    refine hb_if_eq (zx := x_200.toInt) (tgt := 539) hx hb rfl dL_law_532 (by decide) (fun c_217 => ?_) (fun c_217 => ?_)
    · skip
      refine lv_iconst (v := 0) hx hb dL_law_539 (by decide) ?_
      exact jn_540 (0 : Int32) ls (by decide) (by decide) hl
    · skip
      refine lv_iconst (v := 1) hx hb dL_law_535 (by decide) ?_
      refine lv_goto (tgt := 540) hx hb dL_law_536 (by decide) ?_
      exact jn_540 (1 : Int32) ls (by decide) (by decide) hl
  refine hb_if_eq (zx := x_200.toInt) (tgt := 516) hx hb rfl dL_law_509 (by decide) (fun c_218 => ?_) (fun c_218 => ?_)
  · skip
    refine lv_iconst (v := 0) hx hb dL_law_516 (by decide) ?_
    exact jn_517 (0 : Int32) ls (by decide) (by decide) hl
  · skip
    refine lv_iconst (v := 1) hx hb dL_law_512 (by decide) ?_
    refine lv_goto (tgt := 517) hx hb dL_law_513 (by decide) ?_
    exact jn_517 (1 : Int32) ls (by decide) (by decide) hl

set_option maxHeartbeats 4000000 in
set_option maxRecDepth 100000 in
theorem law_case_9 {p : Program} {e : Env} {s : State} {m : MethodId} {below : List Frame} {meth : Method} {c : Code} (l : Launch) {b LN : Nat} {xs : Nat → Int32} (hx : p.tables.exec = Jvm.exec) (hb : c.code = code) (hr : meth.sig.returnType = ret) (hlocks : meth.locks = false) (hml : c.maxLocals = 4) (hown : s.vm.findClass "SmallCourtLaw" = some m.cls) (hts : ∀ w ∈ hx_all, w.before #[Value.ref b] s = true) (hX : va_X b LN xs s s.heap) (hbl : b < s.heap.size) (hbA : ¬ s.heap.size ≤ b) (hLN : LN ≤ 3584) (dC : Nat → ClassId) (dI : Nat → Nat → Nat) (dA : Nat → ClassId) (b0 : hx_z) (ax am : Nat) (T1 : Int) (hT0 : 0 ≤ T1) (hT1 : T1 ≤ 511) (i : Int32) (hi0 : 0 ≤ i.toInt) (hiL : i.toInt + 7 ≤ LN) (CC SS : Nat) (hCC : CC + 3 ≤ 600000) (hSS : SS + 179 ≤ 7302250) (L1 : List Nat) (hl1 : hx_h) (H : Heap) (locs : List Loc) (ls : Array Slot) (hW : hx_W T_tb (P_ty dA) (dC, dI) vwCl (fun q : Nat => s.heap.size ≤ q) s.heap L1 hl1 s H locs) (hZ : hx_Xt (fun q : Nat => s.heap.size ≤ q) b0 s) (hI : hx_IV T1 ax am L1 hl1) (hl : lv_has ls 4 [(3, .int i), (2, .ref am), (1, .ref ax), (0, .ref b)]) (kk : ∀ (L2 : List Nat) (h2 : hx_h) (H2 : Heap) (locs2 : List Loc) (ls2 : Array Slot), hx_W T_tb (P_ty dA) (dC, dI) vwCl (fun q : Nat => s.heap.size ≤ q) s.heap L2 h2 s H2 locs2 → hx_IV (T1 + 1) ax am L2 h2 → lv_has ls2 4 [(3, .int i), (2, .ref am), (1, .ref ax), (0, .ref b)] → W p l e room_1 s m #[Value.ref b] below meth c H2 locs2 (CC + 3) (SS + 179) (lw_Z below #[Value.ref b] s) (F0 m 1379 ls2 [])) : W p l e room_1 s m #[Value.ref b] below meth c H locs CC SS (lw_Z below #[Value.ref b] s) (F0 m 547 ls []) := by
  obtain ⟨hT, gx, gm, ⟨he_nw, he_np, -⟩, ⟨ia, ip, ic, ih, il⟩, ⟨jw, jr, jp, jl, jh, jt⟩⟩ := hI
  obtain ⟨qa, f_qa, g_qa⟩ := hx_rf hT gx tt_9 (k := 5) (u := 43) rfl
  have pf_qa := ia qa f_qa
  obtain ⟨qp, f_qp, g_qp⟩ := hx_rf hT gx tt_9 (k := 7) (u := 44) rfl
  have pf_qp := ip qp f_qp
  obtain ⟨qc, f_qc, g_qc⟩ := hx_rf hT gx tt_9 (k := 10) (u := 45) rfl
  have pf_qc := ic qc f_qc
  obtain ⟨qh, f_qh, g_qh⟩ := hx_rf hT gx tt_9 (k := 12) (u := 46) rfl
  have pf_qh := ih qh f_qh
  obtain ⟨qw, f_qw, g_qw⟩ := hx_rf hT gx tt_9 (k := 19) (u := 8) rfl
  obtain ⟨ql, f_ql, g_ql⟩ := hx_rf hT g_qw tt_8 (k := 3) (u := 40) rfl
  have pf_ql := il qw ql f_qw f_ql
  obtain ⟨nw, f_m_now⟩ : ∃ y : Int32, hl1.2.1 am 0 = y := ⟨_, rfl⟩
  have b_nw := hT.gi gm tt_10 (k := 0) rfl
  rw [f_m_now] at b_nw
  have b_nw : 0 ≤ nw.toInt ∧ nw.toInt ≤ 7999 := b_nw
  obtain ⟨np, f_m_persons⟩ : ∃ y : Int32, hl1.2.1 am 20 = y := ⟨_, rfl⟩
  have b_np := hT.gi gm tt_10 (k := 20) rfl
  rw [f_m_persons] at b_np
  have b_np : 0 ≤ np.toInt ∧ np.toInt ≤ 40 := b_np
  obtain ⟨a0, f_m_acts⟩ : ∃ y : Int32, hl1.2.1 am 1 = y := ⟨_, rfl⟩
  have b_a0 := hT.gi gm tt_10 (k := 1) rfl
  rw [f_m_acts] at b_a0
  have b_a0 : 0 ≤ a0.toInt ∧ a0.toInt ≤ 8 := b_a0
  obtain ⟨c0, f_m_claims⟩ : ∃ y : Int32, hl1.2.1 am 36 = y := ⟨_, rfl⟩
  have b_c0 := hT.gi gm tt_10 (k := 36) rfl
  rw [f_m_claims] at b_c0
  have b_c0 : 0 ≤ c0.toInt ∧ c0.toInt ≤ 100 := b_c0
  obtain ⟨m0, f_m_heardMany⟩ : ∃ y : Int32, hl1.2.1 am 57 = y := ⟨_, rfl⟩
  have b_m0 := hT.gi gm tt_10 (k := 57) rfl
  rw [f_m_heardMany] at b_m0
  have b_m0 : 0 ≤ m0.toInt ∧ m0.toInt ≤ 100 := b_m0
  have f_x_now : hl1.2.1 ax 2 = nw := he_nw.trans f_m_now
  have f_x_personCount : hl1.2.1 ax 8 = np := he_np.trans f_m_persons
  obtain ⟨mw, f_mw, g_mw⟩ := hx_rf hT gm tt_10 (k := 19) (u := 57) rfl
  obtain ⟨F_mw, n_mw⟩ : ∃ g : Nat → Int32, hl1.2.1 mw = g := ⟨_, rfl⟩
  obtain ⟨mr, f_mr, g_mr⟩ := hx_rf hT gm tt_10 (k := 3) (u := 50) rfl
  obtain ⟨F_mr, n_mr⟩ : ∃ g : Nat → Int32, hl1.2.1 mr = g := ⟨_, rfl⟩
  obtain ⟨mp, f_mp, g_mp⟩ := hx_rf hT gm tt_10 (k := 5) (u := 52) rfl
  obtain ⟨F_mp, n_mp⟩ : ∃ g : Nat → Int32, hl1.2.1 mp = g := ⟨_, rfl⟩
  obtain ⟨mn, f_mn, g_mn⟩ := hx_rf hT gm tt_10 (k := 4) (u := 51) rfl
  obtain ⟨F_mn, n_mn⟩ : ∃ g : Nat → Int32, hl1.2.1 mn = g := ⟨_, rfl⟩
  obtain ⟨ml, f_ml, g_ml⟩ := hx_rf hT gm tt_10 (k := 44) (u := 79) rfl
  obtain ⟨F_ml, n_ml⟩ : ∃ g : Nat → Int32, hl1.2.1 ml = g := ⟨_, rfl⟩
  obtain ⟨mh, f_mh, g_mh⟩ := hx_rf hT gm tt_10 (k := 47) (u := 82) rfl
  obtain ⟨F_mh, n_mh⟩ : ∃ g : Nat → Int32, hl1.2.1 mh = g := ⟨_, rfl⟩
  obtain ⟨mt, f_mt, g_mt⟩ := hx_rf hT gm tt_10 (k := 45) (u := 80) rfl
  obtain ⟨F_mt, n_mt⟩ : ∃ g : Nat → Int32, hl1.2.1 mt = g := ⟨_, rfl⟩
  have hwd := jw mw f_mw; rw [n_mw] at hwd
  have hWK := jr mr f_mr; rw [n_mr, f_m_acts] at hWK
  have hRP := jp mp mn f_mp f_mn; rw [n_mp, n_mn, f_m_acts] at hRP
  have hPL := jl ml f_ml; rw [n_ml, f_m_claims, f_m_acts] at hPL
  have hHC := jh mh f_mh; rw [n_mh, f_m_heardMany, f_m_claims] at hHC
  have hTR := jt mt f_mt; rw [n_mt] at hTR
  refine lv_aload_n hx hb dL_law_547 rfl (lv_at hl 2 rfl) ?_
  refine lv_aload_n hx hb dL_law_548 rfl (lv_at hl 3 rfl) ?_
  refine lv_iload_n hx hb dL_law_549 rfl (lv_at hl 0 rfl) ?_
  refine lv_iconst (v := 1) hx hb dL_law_550 (by decide) ?_
  refine lv_iadd hx hb dL_law_551 ?_
  have rg_219 := i32_r i
  refine lv_topi (fun x_220 ex_220 => ?_)
  have zx_220 : x_220.toInt = i.toInt + 1 := by rw [ex_220]; exact i32_add rfl (by decide) (by omega) (by omega)
  refine va_sld hx hb hX hbl hbA hW.2.2.2.1 (vp_in_iff.mpr ⟨by omega, by omega⟩) dL_law_552 ?_
  refine lv_topi (fun x_221 ex_221 => ?_)
  refine lv_aload_n hx hb dL_law_553 rfl (lv_at hl 3 rfl) ?_
  refine lv_iload_n hx hb dL_law_554 rfl (lv_at hl 0 rfl) ?_
  refine lv_iconst (v := 2) hx hb dL_law_555 (by decide) ?_
  refine lv_iadd hx hb dL_law_556 ?_
  refine lv_topi (fun x_222 ex_222 => ?_)
  have zx_222 : x_222.toInt = i.toInt + 2 := by rw [ex_222]; exact i32_add rfl (by decide) (by omega) (by omega)
  refine va_sld hx hb hX hbl hbA hW.2.2.2.1 (vp_in_iff.mpr ⟨by omega, by omega⟩) dL_law_557 ?_
  refine lv_topi (fun x_223 ex_223 => ?_)
  refine lv_aload_n hx hb dL_law_558 rfl (lv_at hl 3 rfl) ?_
  refine lv_iload_n hx hb dL_law_559 rfl (lv_at hl 0 rfl) ?_
  refine lv_iconst (v := 3) hx hb dL_law_560 (by decide) ?_
  refine lv_iadd hx hb dL_law_561 ?_
  refine lv_topi (fun x_224 ex_224 => ?_)
  have zx_224 : x_224.toInt = i.toInt + 3 := by rw [ex_224]; exact i32_add rfl (by decide) (by omega) (by omega)
  refine va_sld hx hb hX hbl hbA hW.2.2.2.1 (vp_in_iff.mpr ⟨by omega, by omega⟩) dL_law_562 ?_
  refine lv_topi (fun x_225 ex_225 => ?_)
  refine lv_aload_n hx hb dL_law_563 rfl (lv_at hl 3 rfl) ?_
  refine lv_iload_n hx hb dL_law_564 rfl (lv_at hl 0 rfl) ?_
  refine lv_iconst (v := 4) hx hb dL_law_565 (by decide) ?_
  refine lv_iadd hx hb dL_law_566 ?_
  refine lv_topi (fun x_226 ex_226 => ?_)
  have zx_226 : x_226.toInt = i.toInt + 4 := by rw [ex_226]; exact i32_add rfl (by decide) (by omega) (by omega)
  refine va_sld hx hb hX hbl hbA hW.2.2.2.1 (vp_in_iff.mpr ⟨by omega, by omega⟩) dL_law_567 ?_
  refine lv_topi (fun x_227 ex_227 => ?_)
  refine lv_aload_n hx hb dL_law_568 rfl (lv_at hl 3 rfl) ?_
  refine lv_iload_n hx hb dL_law_569 rfl (lv_at hl 0 rfl) ?_
  refine lv_iconst (v := 5) hx hb dL_law_570 (by decide) ?_
  refine lv_iadd hx hb dL_law_571 ?_
  refine lv_topi (fun x_228 ex_228 => ?_)
  have zx_228 : x_228.toInt = i.toInt + 5 := by rw [ex_228]; exact i32_add rfl (by decide) (by omega) (by omega)
  refine va_sld hx hb hX hbl hbA hW.2.2.2.1 (vp_in_iff.mpr ⟨by omega, by omega⟩) dL_law_572 ?_
  refine lv_topi (fun x_229 ex_229 => ?_)
  refine hx_goi (hx_runV (As := [.int x_221, .int x_223, .int x_225, .int x_227, .int x_229]) (rest := []) ⟨hx, hb, hml, hown, hts⟩ hW gx tt_9 (T := TX9) (N := 20) rfl (t_X9_line l dC dI dA L1 hl1 H.size ax x_221 x_223 x_225 x_227 x_229 hT gx qp g_qp f_qp pf_qp) (cwV 5 hts (hx_gV kw_671 kw_668 kw_669 kw_670 kw_94) rfl rfl rfl (by decide +kernel) ⟨Nat.le_of_ble_eq_true rfl, Nat.le_of_ble_eq_true rfl⟩) rfl hl.1 rfl (Nat.le_of_ble_eq_true rfl) dL_law_573 ⟨(show CC + 0 ≤ 600000 from by omega), (show SS + 0 ≤ 7302250 from by omega)⟩) hW (fun r_232 L_230 h_231 H locs p_233 hW => ?_)
  obtain ⟨hr_234, hT, hs⟩ := p_233
  have hT : hx_T T_tb L_230 h_231 := hT
  have hs : hx_S T_tb [(1, 0), (13, 0), (14, 0), (15, 0), (16, 0), (17, 0), (18, 0)] L1 hl1 L_230 h_231 := hs
  have f_qa := (hs.o gx trivial rfl).2.trans f_qa
  have f_qp := (hs.o gx trivial rfl).2.trans f_qp
  have f_qc := (hs.o gx trivial rfl).2.trans f_qc
  have f_qh := (hs.o gx trivial rfl).2.trans f_qh
  have f_qw := (hs.o gx trivial rfl).2.trans f_qw
  have f_ql := (hs.o g_qw trivial rfl).2.trans f_ql
  have f_m_now := (hs.o gm trivial rfl).1.trans f_m_now
  have f_m_persons := (hs.o gm trivial rfl).1.trans f_m_persons
  have f_m_acts := (hs.o gm trivial rfl).1.trans f_m_acts
  have f_m_claims := (hs.o gm trivial rfl).1.trans f_m_claims
  have f_m_heardMany := (hs.o gm trivial rfl).1.trans f_m_heardMany
  have f_x_now := (hs.o gx trivial rfl).1.trans f_x_now
  have f_x_personCount := (hs.o gx trivial rfl).1.trans f_x_personCount
  have f_mw := (hs.o gm trivial rfl).2.trans f_mw
  have f_mr := (hs.o gm trivial rfl).2.trans f_mr
  have f_mp := (hs.o gm trivial rfl).2.trans f_mp
  have f_mn := (hs.o gm trivial rfl).2.trans f_mn
  have f_ml := (hs.o gm trivial rfl).2.trans f_ml
  have f_mh := (hs.o gm trivial rfl).2.trans f_mh
  have f_mt := (hs.o gm trivial rfl).2.trans f_mt
  have pf_qa : ∀ j : Nat, (j : Int) < (h_231.2.1 ax 6).toInt → h_231.2.2 qa j ≠ none := by
    intro j hj; rw [(hs.o gx trivial rfl).1] at hj; rw [(hs.a g_qa rfl j).2]; exact pf_qa j hj
  have pf_qp : ∀ j : Nat, (j : Int) < (h_231.2.1 ax 8).toInt → h_231.2.2 qp j ≠ none := by
    intro j hj; rw [(hs.o gx trivial rfl).1] at hj; rw [(hs.a g_qp rfl j).2]; exact pf_qp j hj
  have pf_qc : ∀ j : Nat, (j : Int) < (h_231.2.1 ax 11).toInt → h_231.2.2 qc j ≠ none := by
    intro j hj; rw [(hs.o gx trivial rfl).1] at hj; rw [(hs.a g_qc rfl j).2]; exact pf_qc j hj
  have pf_qh : ∀ j : Nat, (j : Int) < (h_231.2.1 ax 13).toInt → h_231.2.2 qh j ≠ none := by
    intro j hj; rw [(hs.o gx trivial rfl).1] at hj; rw [(hs.a g_qh rfl j).2]; exact pf_qh j hj
  have pf_ql : ∀ j : Nat, (j : Int) < (h_231.2.1 qw 0).toInt → h_231.2.2 ql j ≠ none := by
    intro j hj; rw [(hs.o g_qw trivial rfl).1] at hj; rw [(hs.a g_ql rfl j).2]; exact pf_ql j hj
  have n_mw : h_231.2.1 mw = F_mw := (funext fun j => (hs.a g_mw rfl j).1).trans n_mw
  have n_mr : h_231.2.1 mr = F_mr := (funext fun j => (hs.a g_mr rfl j).1).trans n_mr
  have n_mp : h_231.2.1 mp = F_mp := (funext fun j => (hs.a g_mp rfl j).1).trans n_mp
  have n_mn : h_231.2.1 mn = F_mn := (funext fun j => (hs.a g_mn rfl j).1).trans n_mn
  have n_ml : h_231.2.1 ml = F_ml := (funext fun j => (hs.a g_ml rfl j).1).trans n_ml
  have n_mh : h_231.2.1 mh = F_mh := (funext fun j => (hs.a g_mh rfl j).1).trans n_mh
  have n_mt : h_231.2.1 mt = F_mt := (funext fun j => (hs.a g_mt rfl j).1).trans n_mt
  have gx := gx.S hs
  have gm := gm.S hs
  have g_qa := g_qa.S hs
  have g_qp := g_qp.S hs
  have g_qc := g_qc.S hs
  have g_qh := g_qh.S hs
  have g_qw := g_qw.S hs
  have g_ql := g_ql.S hs
  have g_mw := g_mw.S hs
  have g_mr := g_mr.S hs
  have g_mp := g_mp.S hs
  have g_mn := g_mn.S hs
  have g_ml := g_ml.S hs
  have g_mh := g_mh.S hs
  have g_mt := g_mt.S hs
  refine lv_pop hx hb dL_law_576 rfl ?_
  refine lv_aload_n hx hb dL_law_577 rfl (lv_at hl 1 rfl) ?_
  refine lv_aload_n hx hb dL_law_578 rfl (lv_at hl 3 rfl) ?_
  refine lv_iload_n hx hb dL_law_579 rfl (lv_at hl 0 rfl) ?_
  refine lv_iconst (v := 1) hx hb dL_law_580 (by decide) ?_
  refine lv_iadd hx hb dL_law_581 ?_
  refine lv_topi (fun x_235 ex_235 => ?_)
  have zx_235 : x_235.toInt = i.toInt + 1 := by rw [ex_235]; exact i32_add rfl (by decide) (by omega) (by omega)
  obtain rfl : x_220 = x_235 := ex_220.trans ex_235.symm
  refine va_sld hx hb hX hbl hbA hW.2.2.2.1 (vp_in_iff.mpr ⟨by omega, by omega⟩) dL_law_582 ?_
  refine lv_topi (fun x_236 ex_236 => ?_)
  obtain rfl : x_221 = x_236 := ex_221.trans ex_236.symm
  refine lv_aload_n hx hb dL_law_583 rfl (lv_at hl 3 rfl) ?_
  refine lv_iload_n hx hb dL_law_584 rfl (lv_at hl 0 rfl) ?_
  refine lv_iconst (v := 2) hx hb dL_law_585 (by decide) ?_
  refine lv_iadd hx hb dL_law_586 ?_
  refine lv_topi (fun x_237 ex_237 => ?_)
  have zx_237 : x_237.toInt = i.toInt + 2 := by rw [ex_237]; exact i32_add rfl (by decide) (by omega) (by omega)
  obtain rfl : x_222 = x_237 := ex_222.trans ex_237.symm
  refine va_sld hx hb hX hbl hbA hW.2.2.2.1 (vp_in_iff.mpr ⟨by omega, by omega⟩) dL_law_587 ?_
  refine lv_topi (fun x_238 ex_238 => ?_)
  obtain rfl : x_223 = x_238 := ex_223.trans ex_238.symm
  refine lv_aload_n hx hb dL_law_588 rfl (lv_at hl 3 rfl) ?_
  refine lv_iload_n hx hb dL_law_589 rfl (lv_at hl 0 rfl) ?_
  refine lv_iconst (v := 3) hx hb dL_law_590 (by decide) ?_
  refine lv_iadd hx hb dL_law_591 ?_
  refine lv_topi (fun x_239 ex_239 => ?_)
  have zx_239 : x_239.toInt = i.toInt + 3 := by rw [ex_239]; exact i32_add rfl (by decide) (by omega) (by omega)
  obtain rfl : x_224 = x_239 := ex_224.trans ex_239.symm
  refine va_sld hx hb hX hbl hbA hW.2.2.2.1 (vp_in_iff.mpr ⟨by omega, by omega⟩) dL_law_592 ?_
  refine lv_topi (fun x_240 ex_240 => ?_)
  obtain rfl : x_225 = x_240 := ex_225.trans ex_240.symm
  refine lv_aload_n hx hb dL_law_593 rfl (lv_at hl 3 rfl) ?_
  refine lv_iload_n hx hb dL_law_594 rfl (lv_at hl 0 rfl) ?_
  refine lv_iconst (v := 4) hx hb dL_law_595 (by decide) ?_
  refine lv_iadd hx hb dL_law_596 ?_
  refine lv_topi (fun x_241 ex_241 => ?_)
  have zx_241 : x_241.toInt = i.toInt + 4 := by rw [ex_241]; exact i32_add rfl (by decide) (by omega) (by omega)
  obtain rfl : x_226 = x_241 := ex_226.trans ex_241.symm
  refine va_sld hx hb hX hbl hbA hW.2.2.2.1 (vp_in_iff.mpr ⟨by omega, by omega⟩) dL_law_597 ?_
  refine lv_topi (fun x_242 ex_242 => ?_)
  obtain rfl : x_227 = x_242 := ex_227.trans ex_242.symm
  refine lv_aload_n hx hb dL_law_598 rfl (lv_at hl 3 rfl) ?_
  refine lv_iload_n hx hb dL_law_599 rfl (lv_at hl 0 rfl) ?_
  refine lv_iconst (v := 5) hx hb dL_law_600 (by decide) ?_
  refine lv_iadd hx hb dL_law_601 ?_
  refine lv_topi (fun x_243 ex_243 => ?_)
  have zx_243 : x_243.toInt = i.toInt + 5 := by rw [ex_243]; exact i32_add rfl (by decide) (by omega) (by omega)
  obtain rfl : x_228 = x_243 := ex_228.trans ex_243.symm
  refine va_sld hx hb hX hbl hbA hW.2.2.2.1 (vp_in_iff.mpr ⟨by omega, by omega⟩) dL_law_602 ?_
  refine lv_topi (fun x_244 ex_244 => ?_)
  obtain rfl : x_229 = x_244 := ex_229.trans ex_244.symm
  refine hx_goi (hx_runV (As := [.int x_221, .int x_223, .int x_225, .int x_227, .int x_229]) (rest := []) ⟨hx, hb, hml, hown, hts⟩ hW gm tt_10 (T := TX10) (N := 98) rfl (t_X10_line l dC dI dA L_230 h_231 H.size am x_221 x_223 x_225 x_227 x_229 hT gm) (cwV 5 hts (hx_gV kw_1564 kw_1561 kw_1562 kw_1563 kw_103) rfl rfl rfl (by decide +kernel) ⟨Nat.le_of_ble_eq_true rfl, Nat.le_of_ble_eq_true rfl⟩) rfl hl.1 rfl (Nat.le_of_ble_eq_true rfl) dL_law_603 ⟨(show CC + 0 + 0 ≤ 600000 from by omega), (show SS + 0 + 0 ≤ 7302250 from by omega)⟩) hW (fun r_247 L_245 h_246 H locs p_248 hW => ?_)
  obtain ⟨hr_249, hT, hs⟩ := p_248
  have hT : hx_T T_tb L_245 h_246 := hT
  have hs : hx_S T_tb [(10, 29), (66, 0), (67, 0), (68, 0), (69, 0), (70, 0)] L_230 h_231 L_245 h_246 := hs
  have f_qa := (hs.o gx trivial rfl).2.trans f_qa
  have f_qp := (hs.o gx trivial rfl).2.trans f_qp
  have f_qc := (hs.o gx trivial rfl).2.trans f_qc
  have f_qh := (hs.o gx trivial rfl).2.trans f_qh
  have f_qw := (hs.o gx trivial rfl).2.trans f_qw
  have f_ql := (hs.o g_qw trivial rfl).2.trans f_ql
  have f_m_now := (hs.o gm trivial rfl).1.trans f_m_now
  have f_m_persons := (hs.o gm trivial rfl).1.trans f_m_persons
  have f_m_acts := (hs.o gm trivial rfl).1.trans f_m_acts
  have f_m_claims := (hs.o gm trivial rfl).1.trans f_m_claims
  have f_m_heardMany := (hs.o gm trivial rfl).1.trans f_m_heardMany
  have f_x_now := (hs.o gx trivial rfl).1.trans f_x_now
  have f_x_personCount := (hs.o gx trivial rfl).1.trans f_x_personCount
  have f_mw := (hs.o gm trivial rfl).2.trans f_mw
  have f_mr := (hs.o gm trivial rfl).2.trans f_mr
  have f_mp := (hs.o gm trivial rfl).2.trans f_mp
  have f_mn := (hs.o gm trivial rfl).2.trans f_mn
  have f_ml := (hs.o gm trivial rfl).2.trans f_ml
  have f_mh := (hs.o gm trivial rfl).2.trans f_mh
  have f_mt := (hs.o gm trivial rfl).2.trans f_mt
  have pf_qa : ∀ j : Nat, (j : Int) < (h_246.2.1 ax 6).toInt → h_246.2.2 qa j ≠ none := by
    intro j hj; rw [(hs.o gx trivial rfl).1] at hj; rw [(hs.a g_qa rfl j).2]; exact pf_qa j hj
  have pf_qp : ∀ j : Nat, (j : Int) < (h_246.2.1 ax 8).toInt → h_246.2.2 qp j ≠ none := by
    intro j hj; rw [(hs.o gx trivial rfl).1] at hj; rw [(hs.a g_qp rfl j).2]; exact pf_qp j hj
  have pf_qc : ∀ j : Nat, (j : Int) < (h_246.2.1 ax 11).toInt → h_246.2.2 qc j ≠ none := by
    intro j hj; rw [(hs.o gx trivial rfl).1] at hj; rw [(hs.a g_qc rfl j).2]; exact pf_qc j hj
  have pf_qh : ∀ j : Nat, (j : Int) < (h_246.2.1 ax 13).toInt → h_246.2.2 qh j ≠ none := by
    intro j hj; rw [(hs.o gx trivial rfl).1] at hj; rw [(hs.a g_qh rfl j).2]; exact pf_qh j hj
  have pf_ql : ∀ j : Nat, (j : Int) < (h_246.2.1 qw 0).toInt → h_246.2.2 ql j ≠ none := by
    intro j hj; rw [(hs.o g_qw trivial rfl).1] at hj; rw [(hs.a g_ql rfl j).2]; exact pf_ql j hj
  have n_mw : h_246.2.1 mw = F_mw := (funext fun j => (hs.a g_mw rfl j).1).trans n_mw
  have n_mr : h_246.2.1 mr = F_mr := (funext fun j => (hs.a g_mr rfl j).1).trans n_mr
  have n_mp : h_246.2.1 mp = F_mp := (funext fun j => (hs.a g_mp rfl j).1).trans n_mp
  have n_mn : h_246.2.1 mn = F_mn := (funext fun j => (hs.a g_mn rfl j).1).trans n_mn
  have n_ml : h_246.2.1 ml = F_ml := (funext fun j => (hs.a g_ml rfl j).1).trans n_ml
  have n_mh : h_246.2.1 mh = F_mh := (funext fun j => (hs.a g_mh rfl j).1).trans n_mh
  have n_mt : h_246.2.1 mt = F_mt := (funext fun j => (hs.a g_mt rfl j).1).trans n_mt
  have gx := gx.S hs
  have gm := gm.S hs
  have g_qa := g_qa.S hs
  have g_qp := g_qp.S hs
  have g_qc := g_qc.S hs
  have g_qh := g_qh.S hs
  have g_qw := g_qw.S hs
  have g_ql := g_ql.S hs
  have g_mw := g_mw.S hs
  have g_mr := g_mr.S hs
  have g_mp := g_mp.S hs
  have g_mn := g_mn.S hs
  have g_ml := g_ml.S hs
  have g_mh := g_mh.S hs
  have g_mt := g_mt.S hs
  refine lv_pop hx hb dL_law_606 rfl ?_
  refine lv_goto (tgt := 1379) hx hb dL_law_607 (by decide) ?_
  refine W.widen (k := CC + 3) (n := SS + 179) (by omega) (by omega) ?_
  exact kk L_245 h_246 H locs ls hW ⟨hT, gx, gm, ⟨f_x_now.trans f_m_now.symm, f_x_personCount.trans f_m_persons.symm, trivial⟩, ⟨hx_ob f_qa pf_qa, hx_ob f_qp pf_qp, hx_ob f_qc pf_qc, hx_ob f_qh pf_qh, (fun w q hw hq => by obtain rfl : qw = w := Option.some.inj (f_qw.symm.trans hw); obtain rfl : ql = q := Option.some.inj (f_ql.symm.trans hq); exact pf_ql)⟩, ⟨hx_ob f_mw (by rw [n_mw]; exact hwd), hx_ob f_mr (by rw [n_mr, f_m_acts]; exact hWK), hx_ob2 f_mp f_mn (by rw [n_mp, n_mn, f_m_acts]; exact hRP), hx_ob f_ml (by rw [n_ml, f_m_claims, f_m_acts]; exact hPL), hx_ob f_mh (by rw [n_mh, f_m_heardMany, f_m_claims]; exact hHC), hx_ob f_mt (by rw [n_mt]; exact (hx_TR_le hTR (by omega)))⟩⟩ hl

set_option maxHeartbeats 4000000 in
set_option maxRecDepth 100000 in
theorem law_case_10 {p : Program} {e : Env} {s : State} {m : MethodId} {below : List Frame} {meth : Method} {c : Code} (l : Launch) {b LN : Nat} {xs : Nat → Int32} (hx : p.tables.exec = Jvm.exec) (hb : c.code = code) (hr : meth.sig.returnType = ret) (hlocks : meth.locks = false) (hml : c.maxLocals = 4) (hown : s.vm.findClass "SmallCourtLaw" = some m.cls) (hts : ∀ w ∈ hx_all, w.before #[Value.ref b] s = true) (hX : va_X b LN xs s s.heap) (hbl : b < s.heap.size) (hbA : ¬ s.heap.size ≤ b) (hLN : LN ≤ 3584) (dC : Nat → ClassId) (dI : Nat → Nat → Nat) (dA : Nat → ClassId) (b0 : hx_z) (ax am : Nat) (T1 : Int) (hT0 : 0 ≤ T1) (hT1 : T1 ≤ 511) (i : Int32) (hi0 : 0 ≤ i.toInt) (hiL : i.toInt + 7 ≤ LN) (CC SS : Nat) (hCC : CC + 3 ≤ 600000) (hSS : SS + 179 ≤ 7302250) (L1 : List Nat) (hl1 : hx_h) (H : Heap) (locs : List Loc) (ls : Array Slot) (hW : hx_W T_tb (P_ty dA) (dC, dI) vwCl (fun q : Nat => s.heap.size ≤ q) s.heap L1 hl1 s H locs) (hZ : hx_Xt (fun q : Nat => s.heap.size ≤ q) b0 s) (hI : hx_IV T1 ax am L1 hl1) (hl : lv_has ls 4 [(3, .int i), (2, .ref am), (1, .ref ax), (0, .ref b)]) (kk : ∀ (L2 : List Nat) (h2 : hx_h) (H2 : Heap) (locs2 : List Loc) (ls2 : Array Slot), hx_W T_tb (P_ty dA) (dC, dI) vwCl (fun q : Nat => s.heap.size ≤ q) s.heap L2 h2 s H2 locs2 → hx_IV (T1 + 1) ax am L2 h2 → lv_has ls2 4 [(3, .int i), (2, .ref am), (1, .ref ax), (0, .ref b)] → W p l e room_1 s m #[Value.ref b] below meth c H2 locs2 (CC + 3) (SS + 179) (lw_Z below #[Value.ref b] s) (F0 m 1379 ls2 [])) : W p l e room_1 s m #[Value.ref b] below meth c H locs CC SS (lw_Z below #[Value.ref b] s) (F0 m 610 ls []) := by
  obtain ⟨hT, gx, gm, ⟨he_nw, he_np, -⟩, ⟨ia, ip, ic, ih, il⟩, ⟨jw, jr, jp, jl, jh, jt⟩⟩ := hI
  obtain ⟨qa, f_qa, g_qa⟩ := hx_rf hT gx tt_9 (k := 5) (u := 43) rfl
  have pf_qa := ia qa f_qa
  obtain ⟨qp, f_qp, g_qp⟩ := hx_rf hT gx tt_9 (k := 7) (u := 44) rfl
  have pf_qp := ip qp f_qp
  obtain ⟨qc, f_qc, g_qc⟩ := hx_rf hT gx tt_9 (k := 10) (u := 45) rfl
  have pf_qc := ic qc f_qc
  obtain ⟨qh, f_qh, g_qh⟩ := hx_rf hT gx tt_9 (k := 12) (u := 46) rfl
  have pf_qh := ih qh f_qh
  obtain ⟨qw, f_qw, g_qw⟩ := hx_rf hT gx tt_9 (k := 19) (u := 8) rfl
  obtain ⟨ql, f_ql, g_ql⟩ := hx_rf hT g_qw tt_8 (k := 3) (u := 40) rfl
  have pf_ql := il qw ql f_qw f_ql
  obtain ⟨nw, f_m_now⟩ : ∃ y : Int32, hl1.2.1 am 0 = y := ⟨_, rfl⟩
  have b_nw := hT.gi gm tt_10 (k := 0) rfl
  rw [f_m_now] at b_nw
  have b_nw : 0 ≤ nw.toInt ∧ nw.toInt ≤ 7999 := b_nw
  obtain ⟨np, f_m_persons⟩ : ∃ y : Int32, hl1.2.1 am 20 = y := ⟨_, rfl⟩
  have b_np := hT.gi gm tt_10 (k := 20) rfl
  rw [f_m_persons] at b_np
  have b_np : 0 ≤ np.toInt ∧ np.toInt ≤ 40 := b_np
  obtain ⟨a0, f_m_acts⟩ : ∃ y : Int32, hl1.2.1 am 1 = y := ⟨_, rfl⟩
  have b_a0 := hT.gi gm tt_10 (k := 1) rfl
  rw [f_m_acts] at b_a0
  have b_a0 : 0 ≤ a0.toInt ∧ a0.toInt ≤ 8 := b_a0
  obtain ⟨c0, f_m_claims⟩ : ∃ y : Int32, hl1.2.1 am 36 = y := ⟨_, rfl⟩
  have b_c0 := hT.gi gm tt_10 (k := 36) rfl
  rw [f_m_claims] at b_c0
  have b_c0 : 0 ≤ c0.toInt ∧ c0.toInt ≤ 100 := b_c0
  obtain ⟨m0, f_m_heardMany⟩ : ∃ y : Int32, hl1.2.1 am 57 = y := ⟨_, rfl⟩
  have b_m0 := hT.gi gm tt_10 (k := 57) rfl
  rw [f_m_heardMany] at b_m0
  have b_m0 : 0 ≤ m0.toInt ∧ m0.toInt ≤ 100 := b_m0
  have f_x_now : hl1.2.1 ax 2 = nw := he_nw.trans f_m_now
  have f_x_personCount : hl1.2.1 ax 8 = np := he_np.trans f_m_persons
  obtain ⟨mw, f_mw, g_mw⟩ := hx_rf hT gm tt_10 (k := 19) (u := 57) rfl
  obtain ⟨F_mw, n_mw⟩ : ∃ g : Nat → Int32, hl1.2.1 mw = g := ⟨_, rfl⟩
  obtain ⟨mr, f_mr, g_mr⟩ := hx_rf hT gm tt_10 (k := 3) (u := 50) rfl
  obtain ⟨F_mr, n_mr⟩ : ∃ g : Nat → Int32, hl1.2.1 mr = g := ⟨_, rfl⟩
  obtain ⟨mp, f_mp, g_mp⟩ := hx_rf hT gm tt_10 (k := 5) (u := 52) rfl
  obtain ⟨F_mp, n_mp⟩ : ∃ g : Nat → Int32, hl1.2.1 mp = g := ⟨_, rfl⟩
  obtain ⟨mn, f_mn, g_mn⟩ := hx_rf hT gm tt_10 (k := 4) (u := 51) rfl
  obtain ⟨F_mn, n_mn⟩ : ∃ g : Nat → Int32, hl1.2.1 mn = g := ⟨_, rfl⟩
  obtain ⟨ml, f_ml, g_ml⟩ := hx_rf hT gm tt_10 (k := 44) (u := 79) rfl
  obtain ⟨F_ml, n_ml⟩ : ∃ g : Nat → Int32, hl1.2.1 ml = g := ⟨_, rfl⟩
  obtain ⟨mh, f_mh, g_mh⟩ := hx_rf hT gm tt_10 (k := 47) (u := 82) rfl
  obtain ⟨F_mh, n_mh⟩ : ∃ g : Nat → Int32, hl1.2.1 mh = g := ⟨_, rfl⟩
  obtain ⟨mt, f_mt, g_mt⟩ := hx_rf hT gm tt_10 (k := 45) (u := 80) rfl
  obtain ⟨F_mt, n_mt⟩ : ∃ g : Nat → Int32, hl1.2.1 mt = g := ⟨_, rfl⟩
  have hwd := jw mw f_mw; rw [n_mw] at hwd
  have hWK := jr mr f_mr; rw [n_mr, f_m_acts] at hWK
  have hRP := jp mp mn f_mp f_mn; rw [n_mp, n_mn, f_m_acts] at hRP
  have hPL := jl ml f_ml; rw [n_ml, f_m_claims, f_m_acts] at hPL
  have hHC := jh mh f_mh; rw [n_mh, f_m_heardMany, f_m_claims] at hHC
  have hTR := jt mt f_mt; rw [n_mt] at hTR
  refine lv_aload_n hx hb dL_law_610 rfl (lv_at hl 2 rfl) ?_
  refine lv_aload_n hx hb dL_law_611 rfl (lv_at hl 3 rfl) ?_
  refine lv_iload_n hx hb dL_law_612 rfl (lv_at hl 0 rfl) ?_
  refine lv_iconst (v := 1) hx hb dL_law_613 (by decide) ?_
  refine lv_iadd hx hb dL_law_614 ?_
  have rg_250 := i32_r i
  refine lv_topi (fun x_251 ex_251 => ?_)
  have zx_251 : x_251.toInt = i.toInt + 1 := by rw [ex_251]; exact i32_add rfl (by decide) (by omega) (by omega)
  refine va_sld hx hb hX hbl hbA hW.2.2.2.1 (vp_in_iff.mpr ⟨by omega, by omega⟩) dL_law_615 ?_
  refine lv_topi (fun x_252 ex_252 => ?_)
  refine lv_aload_n hx hb dL_law_616 rfl (lv_at hl 3 rfl) ?_
  refine lv_iload_n hx hb dL_law_617 rfl (lv_at hl 0 rfl) ?_
  refine lv_iconst (v := 2) hx hb dL_law_618 (by decide) ?_
  refine lv_iadd hx hb dL_law_619 ?_
  refine lv_topi (fun x_253 ex_253 => ?_)
  have zx_253 : x_253.toInt = i.toInt + 2 := by rw [ex_253]; exact i32_add rfl (by decide) (by omega) (by omega)
  refine va_sld hx hb hX hbl hbA hW.2.2.2.1 (vp_in_iff.mpr ⟨by omega, by omega⟩) dL_law_620 ?_
  refine lv_topi (fun x_254 ex_254 => ?_)
  refine lv_aload_n hx hb dL_law_621 rfl (lv_at hl 3 rfl) ?_
  refine lv_iload_n hx hb dL_law_622 rfl (lv_at hl 0 rfl) ?_
  refine lv_iconst (v := 3) hx hb dL_law_623 (by decide) ?_
  refine lv_iadd hx hb dL_law_624 ?_
  refine lv_topi (fun x_255 ex_255 => ?_)
  have zx_255 : x_255.toInt = i.toInt + 3 := by rw [ex_255]; exact i32_add rfl (by decide) (by omega) (by omega)
  refine va_sld hx hb hX hbl hbA hW.2.2.2.1 (vp_in_iff.mpr ⟨by omega, by omega⟩) dL_law_625 ?_
  refine lv_topi (fun x_256 ex_256 => ?_)
  refine lv_aload_n hx hb dL_law_626 rfl (lv_at hl 3 rfl) ?_
  refine lv_iload_n hx hb dL_law_627 rfl (lv_at hl 0 rfl) ?_
  refine lv_iconst (v := 4) hx hb dL_law_628 (by decide) ?_
  refine lv_iadd hx hb dL_law_629 ?_
  refine lv_topi (fun x_257 ex_257 => ?_)
  have zx_257 : x_257.toInt = i.toInt + 4 := by rw [ex_257]; exact i32_add rfl (by decide) (by omega) (by omega)
  refine va_sld hx hb hX hbl hbA hW.2.2.2.1 (vp_in_iff.mpr ⟨by omega, by omega⟩) dL_law_630 ?_
  refine lv_topi (fun x_258 ex_258 => ?_)
  refine hx_goi (hx_runV (As := [.int x_252, .int x_254, .int x_256, .int x_258]) (rest := []) ⟨hx, hb, hml, hown, hts⟩ hW gx tt_9 (T := TX9) (N := 20) rfl (t_X9_book l dC dI dA L1 hl1 H.size ax x_252 x_254 x_256 x_258 hT gx qp g_qp f_qp pf_qp) (cwV 4 hts (hx_gV kw_683 kw_680 kw_681 kw_682 kw_94) rfl rfl rfl (by decide +kernel) ⟨Nat.le_of_ble_eq_true rfl, Nat.le_of_ble_eq_true rfl⟩) rfl hl.1 rfl (Nat.le_of_ble_eq_true rfl) dL_law_631 ⟨(show CC + 0 ≤ 600000 from by omega), (show SS + 0 ≤ 7302250 from by omega)⟩) hW (fun r_261 L_259 h_260 H locs p_262 hW => ?_)
  obtain ⟨hr_263, hT, hs⟩ := p_262
  have hT : hx_T T_tb L_259 h_260 := hT
  have hs : hx_S T_tb [(19, 0)] L1 hl1 L_259 h_260 := hs
  have f_qa := (hs.o gx trivial rfl).2.trans f_qa
  have f_qp := (hs.o gx trivial rfl).2.trans f_qp
  have f_qc := (hs.o gx trivial rfl).2.trans f_qc
  have f_qh := (hs.o gx trivial rfl).2.trans f_qh
  have f_qw := (hs.o gx trivial rfl).2.trans f_qw
  have f_ql := (hs.o g_qw trivial rfl).2.trans f_ql
  have f_m_now := (hs.o gm trivial rfl).1.trans f_m_now
  have f_m_persons := (hs.o gm trivial rfl).1.trans f_m_persons
  have f_m_acts := (hs.o gm trivial rfl).1.trans f_m_acts
  have f_m_claims := (hs.o gm trivial rfl).1.trans f_m_claims
  have f_m_heardMany := (hs.o gm trivial rfl).1.trans f_m_heardMany
  have f_x_now := (hs.o gx trivial rfl).1.trans f_x_now
  have f_x_personCount := (hs.o gx trivial rfl).1.trans f_x_personCount
  have f_mw := (hs.o gm trivial rfl).2.trans f_mw
  have f_mr := (hs.o gm trivial rfl).2.trans f_mr
  have f_mp := (hs.o gm trivial rfl).2.trans f_mp
  have f_mn := (hs.o gm trivial rfl).2.trans f_mn
  have f_ml := (hs.o gm trivial rfl).2.trans f_ml
  have f_mh := (hs.o gm trivial rfl).2.trans f_mh
  have f_mt := (hs.o gm trivial rfl).2.trans f_mt
  have pf_qa : ∀ j : Nat, (j : Int) < (h_260.2.1 ax 6).toInt → h_260.2.2 qa j ≠ none := by
    intro j hj; rw [(hs.o gx trivial rfl).1] at hj; rw [(hs.a g_qa rfl j).2]; exact pf_qa j hj
  have pf_qp : ∀ j : Nat, (j : Int) < (h_260.2.1 ax 8).toInt → h_260.2.2 qp j ≠ none := by
    intro j hj; rw [(hs.o gx trivial rfl).1] at hj; rw [(hs.a g_qp rfl j).2]; exact pf_qp j hj
  have pf_qc : ∀ j : Nat, (j : Int) < (h_260.2.1 ax 11).toInt → h_260.2.2 qc j ≠ none := by
    intro j hj; rw [(hs.o gx trivial rfl).1] at hj; rw [(hs.a g_qc rfl j).2]; exact pf_qc j hj
  have pf_qh : ∀ j : Nat, (j : Int) < (h_260.2.1 ax 13).toInt → h_260.2.2 qh j ≠ none := by
    intro j hj; rw [(hs.o gx trivial rfl).1] at hj; rw [(hs.a g_qh rfl j).2]; exact pf_qh j hj
  have pf_ql : ∀ j : Nat, (j : Int) < (h_260.2.1 qw 0).toInt → h_260.2.2 ql j ≠ none := by
    intro j hj; rw [(hs.o g_qw trivial rfl).1] at hj; rw [(hs.a g_ql rfl j).2]; exact pf_ql j hj
  have n_mw : h_260.2.1 mw = F_mw := (funext fun j => (hs.a g_mw rfl j).1).trans n_mw
  have n_mr : h_260.2.1 mr = F_mr := (funext fun j => (hs.a g_mr rfl j).1).trans n_mr
  have n_mp : h_260.2.1 mp = F_mp := (funext fun j => (hs.a g_mp rfl j).1).trans n_mp
  have n_mn : h_260.2.1 mn = F_mn := (funext fun j => (hs.a g_mn rfl j).1).trans n_mn
  have n_ml : h_260.2.1 ml = F_ml := (funext fun j => (hs.a g_ml rfl j).1).trans n_ml
  have n_mh : h_260.2.1 mh = F_mh := (funext fun j => (hs.a g_mh rfl j).1).trans n_mh
  have n_mt : h_260.2.1 mt = F_mt := (funext fun j => (hs.a g_mt rfl j).1).trans n_mt
  have gx := gx.S hs
  have gm := gm.S hs
  have g_qa := g_qa.S hs
  have g_qp := g_qp.S hs
  have g_qc := g_qc.S hs
  have g_qh := g_qh.S hs
  have g_qw := g_qw.S hs
  have g_ql := g_ql.S hs
  have g_mw := g_mw.S hs
  have g_mr := g_mr.S hs
  have g_mp := g_mp.S hs
  have g_mn := g_mn.S hs
  have g_ml := g_ml.S hs
  have g_mh := g_mh.S hs
  have g_mt := g_mt.S hs
  refine lv_pop hx hb dL_law_634 rfl ?_
  refine lv_aload_n hx hb dL_law_635 rfl (lv_at hl 1 rfl) ?_
  refine lv_aload_n hx hb dL_law_636 rfl (lv_at hl 3 rfl) ?_
  refine lv_iload_n hx hb dL_law_637 rfl (lv_at hl 0 rfl) ?_
  refine lv_iconst (v := 1) hx hb dL_law_638 (by decide) ?_
  refine lv_iadd hx hb dL_law_639 ?_
  refine lv_topi (fun x_264 ex_264 => ?_)
  have zx_264 : x_264.toInt = i.toInt + 1 := by rw [ex_264]; exact i32_add rfl (by decide) (by omega) (by omega)
  obtain rfl : x_251 = x_264 := ex_251.trans ex_264.symm
  refine va_sld hx hb hX hbl hbA hW.2.2.2.1 (vp_in_iff.mpr ⟨by omega, by omega⟩) dL_law_640 ?_
  refine lv_topi (fun x_265 ex_265 => ?_)
  obtain rfl : x_252 = x_265 := ex_252.trans ex_265.symm
  refine lv_aload_n hx hb dL_law_641 rfl (lv_at hl 3 rfl) ?_
  refine lv_iload_n hx hb dL_law_642 rfl (lv_at hl 0 rfl) ?_
  refine lv_iconst (v := 2) hx hb dL_law_643 (by decide) ?_
  refine lv_iadd hx hb dL_law_644 ?_
  refine lv_topi (fun x_266 ex_266 => ?_)
  have zx_266 : x_266.toInt = i.toInt + 2 := by rw [ex_266]; exact i32_add rfl (by decide) (by omega) (by omega)
  obtain rfl : x_253 = x_266 := ex_253.trans ex_266.symm
  refine va_sld hx hb hX hbl hbA hW.2.2.2.1 (vp_in_iff.mpr ⟨by omega, by omega⟩) dL_law_645 ?_
  refine lv_topi (fun x_267 ex_267 => ?_)
  obtain rfl : x_254 = x_267 := ex_254.trans ex_267.symm
  refine lv_aload_n hx hb dL_law_646 rfl (lv_at hl 3 rfl) ?_
  refine lv_iload_n hx hb dL_law_647 rfl (lv_at hl 0 rfl) ?_
  refine lv_iconst (v := 3) hx hb dL_law_648 (by decide) ?_
  refine lv_iadd hx hb dL_law_649 ?_
  refine lv_topi (fun x_268 ex_268 => ?_)
  have zx_268 : x_268.toInt = i.toInt + 3 := by rw [ex_268]; exact i32_add rfl (by decide) (by omega) (by omega)
  obtain rfl : x_255 = x_268 := ex_255.trans ex_268.symm
  refine va_sld hx hb hX hbl hbA hW.2.2.2.1 (vp_in_iff.mpr ⟨by omega, by omega⟩) dL_law_650 ?_
  refine lv_topi (fun x_269 ex_269 => ?_)
  obtain rfl : x_256 = x_269 := ex_256.trans ex_269.symm
  refine lv_aload_n hx hb dL_law_651 rfl (lv_at hl 3 rfl) ?_
  refine lv_iload_n hx hb dL_law_652 rfl (lv_at hl 0 rfl) ?_
  refine lv_iconst (v := 4) hx hb dL_law_653 (by decide) ?_
  refine lv_iadd hx hb dL_law_654 ?_
  refine lv_topi (fun x_270 ex_270 => ?_)
  have zx_270 : x_270.toInt = i.toInt + 4 := by rw [ex_270]; exact i32_add rfl (by decide) (by omega) (by omega)
  obtain rfl : x_257 = x_270 := ex_257.trans ex_270.symm
  refine va_sld hx hb hX hbl hbA hW.2.2.2.1 (vp_in_iff.mpr ⟨by omega, by omega⟩) dL_law_655 ?_
  refine lv_topi (fun x_271 ex_271 => ?_)
  obtain rfl : x_258 = x_271 := ex_258.trans ex_271.symm
  refine hx_goi (hx_runV (As := [.int x_252, .int x_254, .int x_256, .int x_258]) (rest := []) ⟨hx, hb, hml, hown, hts⟩ hW gm tt_10 (T := TX10) (N := 98) rfl (t_X10_book l dC dI dA L_259 h_260 H.size am x_252 x_254 x_256 x_258 hT gm) (cwV 4 hts (hx_gV kw_1568 kw_1565 kw_1566 kw_1567 kw_103) rfl rfl rfl (by decide +kernel) ⟨Nat.le_of_ble_eq_true rfl, Nat.le_of_ble_eq_true rfl⟩) rfl hl.1 rfl (Nat.le_of_ble_eq_true rfl) dL_law_656 ⟨(show CC + 0 + 0 ≤ 600000 from by omega), (show SS + 0 + 0 ≤ 7302250 from by omega)⟩) hW (fun r_274 L_272 h_273 H locs p_275 hW => ?_)
  obtain ⟨hr_276, hT, hs⟩ := p_275
  have hT : hx_T T_tb L_272 h_273 := hT
  have hs : hx_S T_tb [(71, 0)] L_259 h_260 L_272 h_273 := hs
  have f_qa := (hs.o gx trivial rfl).2.trans f_qa
  have f_qp := (hs.o gx trivial rfl).2.trans f_qp
  have f_qc := (hs.o gx trivial rfl).2.trans f_qc
  have f_qh := (hs.o gx trivial rfl).2.trans f_qh
  have f_qw := (hs.o gx trivial rfl).2.trans f_qw
  have f_ql := (hs.o g_qw trivial rfl).2.trans f_ql
  have f_m_now := (hs.o gm trivial rfl).1.trans f_m_now
  have f_m_persons := (hs.o gm trivial rfl).1.trans f_m_persons
  have f_m_acts := (hs.o gm trivial rfl).1.trans f_m_acts
  have f_m_claims := (hs.o gm trivial rfl).1.trans f_m_claims
  have f_m_heardMany := (hs.o gm trivial rfl).1.trans f_m_heardMany
  have f_x_now := (hs.o gx trivial rfl).1.trans f_x_now
  have f_x_personCount := (hs.o gx trivial rfl).1.trans f_x_personCount
  have f_mw := (hs.o gm trivial rfl).2.trans f_mw
  have f_mr := (hs.o gm trivial rfl).2.trans f_mr
  have f_mp := (hs.o gm trivial rfl).2.trans f_mp
  have f_mn := (hs.o gm trivial rfl).2.trans f_mn
  have f_ml := (hs.o gm trivial rfl).2.trans f_ml
  have f_mh := (hs.o gm trivial rfl).2.trans f_mh
  have f_mt := (hs.o gm trivial rfl).2.trans f_mt
  have pf_qa : ∀ j : Nat, (j : Int) < (h_273.2.1 ax 6).toInt → h_273.2.2 qa j ≠ none := by
    intro j hj; rw [(hs.o gx trivial rfl).1] at hj; rw [(hs.a g_qa rfl j).2]; exact pf_qa j hj
  have pf_qp : ∀ j : Nat, (j : Int) < (h_273.2.1 ax 8).toInt → h_273.2.2 qp j ≠ none := by
    intro j hj; rw [(hs.o gx trivial rfl).1] at hj; rw [(hs.a g_qp rfl j).2]; exact pf_qp j hj
  have pf_qc : ∀ j : Nat, (j : Int) < (h_273.2.1 ax 11).toInt → h_273.2.2 qc j ≠ none := by
    intro j hj; rw [(hs.o gx trivial rfl).1] at hj; rw [(hs.a g_qc rfl j).2]; exact pf_qc j hj
  have pf_qh : ∀ j : Nat, (j : Int) < (h_273.2.1 ax 13).toInt → h_273.2.2 qh j ≠ none := by
    intro j hj; rw [(hs.o gx trivial rfl).1] at hj; rw [(hs.a g_qh rfl j).2]; exact pf_qh j hj
  have pf_ql : ∀ j : Nat, (j : Int) < (h_273.2.1 qw 0).toInt → h_273.2.2 ql j ≠ none := by
    intro j hj; rw [(hs.o g_qw trivial rfl).1] at hj; rw [(hs.a g_ql rfl j).2]; exact pf_ql j hj
  have n_mw : h_273.2.1 mw = F_mw := (funext fun j => (hs.a g_mw rfl j).1).trans n_mw
  have n_mr : h_273.2.1 mr = F_mr := (funext fun j => (hs.a g_mr rfl j).1).trans n_mr
  have n_mp : h_273.2.1 mp = F_mp := (funext fun j => (hs.a g_mp rfl j).1).trans n_mp
  have n_mn : h_273.2.1 mn = F_mn := (funext fun j => (hs.a g_mn rfl j).1).trans n_mn
  have n_ml : h_273.2.1 ml = F_ml := (funext fun j => (hs.a g_ml rfl j).1).trans n_ml
  have n_mh : h_273.2.1 mh = F_mh := (funext fun j => (hs.a g_mh rfl j).1).trans n_mh
  have n_mt : h_273.2.1 mt = F_mt := (funext fun j => (hs.a g_mt rfl j).1).trans n_mt
  have gx := gx.S hs
  have gm := gm.S hs
  have g_qa := g_qa.S hs
  have g_qp := g_qp.S hs
  have g_qc := g_qc.S hs
  have g_qh := g_qh.S hs
  have g_qw := g_qw.S hs
  have g_ql := g_ql.S hs
  have g_mw := g_mw.S hs
  have g_mr := g_mr.S hs
  have g_mp := g_mp.S hs
  have g_mn := g_mn.S hs
  have g_ml := g_ml.S hs
  have g_mh := g_mh.S hs
  have g_mt := g_mt.S hs
  refine lv_pop hx hb dL_law_659 rfl ?_
  refine lv_goto (tgt := 1379) hx hb dL_law_660 (by decide) ?_
  refine W.widen (k := CC + 3) (n := SS + 179) (by omega) (by omega) ?_
  exact kk L_272 h_273 H locs ls hW ⟨hT, gx, gm, ⟨f_x_now.trans f_m_now.symm, f_x_personCount.trans f_m_persons.symm, trivial⟩, ⟨hx_ob f_qa pf_qa, hx_ob f_qp pf_qp, hx_ob f_qc pf_qc, hx_ob f_qh pf_qh, (fun w q hw hq => by obtain rfl : qw = w := Option.some.inj (f_qw.symm.trans hw); obtain rfl : ql = q := Option.some.inj (f_ql.symm.trans hq); exact pf_ql)⟩, ⟨hx_ob f_mw (by rw [n_mw]; exact hwd), hx_ob f_mr (by rw [n_mr, f_m_acts]; exact hWK), hx_ob2 f_mp f_mn (by rw [n_mp, n_mn, f_m_acts]; exact hRP), hx_ob f_ml (by rw [n_ml, f_m_claims, f_m_acts]; exact hPL), hx_ob f_mh (by rw [n_mh, f_m_heardMany, f_m_claims]; exact hHC), hx_ob f_mt (by rw [n_mt]; exact (hx_TR_le hTR (by omega)))⟩⟩ hl

set_option maxHeartbeats 4000000 in
set_option maxRecDepth 100000 in
theorem law_case_11 {p : Program} {e : Env} {s : State} {m : MethodId} {below : List Frame} {meth : Method} {c : Code} (l : Launch) {b LN : Nat} {xs : Nat → Int32} (hx : p.tables.exec = Jvm.exec) (hb : c.code = code) (hr : meth.sig.returnType = ret) (hlocks : meth.locks = false) (hml : c.maxLocals = 4) (hown : s.vm.findClass "SmallCourtLaw" = some m.cls) (hts : ∀ w ∈ hx_all, w.before #[Value.ref b] s = true) (hX : va_X b LN xs s s.heap) (hbl : b < s.heap.size) (hbA : ¬ s.heap.size ≤ b) (hLN : LN ≤ 3584) (dC : Nat → ClassId) (dI : Nat → Nat → Nat) (dA : Nat → ClassId) (b0 : hx_z) (ax am : Nat) (T1 : Int) (hT0 : 0 ≤ T1) (hT1 : T1 ≤ 511) (i : Int32) (hi0 : 0 ≤ i.toInt) (hiL : i.toInt + 7 ≤ LN) (CC SS : Nat) (hCC : CC + 3 ≤ 600000) (hSS : SS + 179 ≤ 7302250) (L1 : List Nat) (hl1 : hx_h) (H : Heap) (locs : List Loc) (ls : Array Slot) (hW : hx_W T_tb (P_ty dA) (dC, dI) vwCl (fun q : Nat => s.heap.size ≤ q) s.heap L1 hl1 s H locs) (hZ : hx_Xt (fun q : Nat => s.heap.size ≤ q) b0 s) (hI : hx_IV T1 ax am L1 hl1) (hl : lv_has ls 4 [(3, .int i), (2, .ref am), (1, .ref ax), (0, .ref b)]) (kk : ∀ (L2 : List Nat) (h2 : hx_h) (H2 : Heap) (locs2 : List Loc) (ls2 : Array Slot), hx_W T_tb (P_ty dA) (dC, dI) vwCl (fun q : Nat => s.heap.size ≤ q) s.heap L2 h2 s H2 locs2 → hx_IV (T1 + 1) ax am L2 h2 → lv_has ls2 4 [(3, .int i), (2, .ref am), (1, .ref ax), (0, .ref b)] → W p l e room_1 s m #[Value.ref b] below meth c H2 locs2 (CC + 3) (SS + 179) (lw_Z below #[Value.ref b] s) (F0 m 1379 ls2 [])) : W p l e room_1 s m #[Value.ref b] below meth c H locs CC SS (lw_Z below #[Value.ref b] s) (F0 m 663 ls []) := by
  obtain ⟨hT, gx, gm, ⟨he_nw, he_np, -⟩, ⟨ia, ip, ic, ih, il⟩, ⟨jw, jr, jp, jl, jh, jt⟩⟩ := hI
  obtain ⟨qa, f_qa, g_qa⟩ := hx_rf hT gx tt_9 (k := 5) (u := 43) rfl
  have pf_qa := ia qa f_qa
  obtain ⟨qp, f_qp, g_qp⟩ := hx_rf hT gx tt_9 (k := 7) (u := 44) rfl
  have pf_qp := ip qp f_qp
  obtain ⟨qc, f_qc, g_qc⟩ := hx_rf hT gx tt_9 (k := 10) (u := 45) rfl
  have pf_qc := ic qc f_qc
  obtain ⟨qh, f_qh, g_qh⟩ := hx_rf hT gx tt_9 (k := 12) (u := 46) rfl
  have pf_qh := ih qh f_qh
  obtain ⟨qw, f_qw, g_qw⟩ := hx_rf hT gx tt_9 (k := 19) (u := 8) rfl
  obtain ⟨ql, f_ql, g_ql⟩ := hx_rf hT g_qw tt_8 (k := 3) (u := 40) rfl
  have pf_ql := il qw ql f_qw f_ql
  obtain ⟨nw, f_m_now⟩ : ∃ y : Int32, hl1.2.1 am 0 = y := ⟨_, rfl⟩
  have b_nw := hT.gi gm tt_10 (k := 0) rfl
  rw [f_m_now] at b_nw
  have b_nw : 0 ≤ nw.toInt ∧ nw.toInt ≤ 7999 := b_nw
  obtain ⟨np, f_m_persons⟩ : ∃ y : Int32, hl1.2.1 am 20 = y := ⟨_, rfl⟩
  have b_np := hT.gi gm tt_10 (k := 20) rfl
  rw [f_m_persons] at b_np
  have b_np : 0 ≤ np.toInt ∧ np.toInt ≤ 40 := b_np
  obtain ⟨a0, f_m_acts⟩ : ∃ y : Int32, hl1.2.1 am 1 = y := ⟨_, rfl⟩
  have b_a0 := hT.gi gm tt_10 (k := 1) rfl
  rw [f_m_acts] at b_a0
  have b_a0 : 0 ≤ a0.toInt ∧ a0.toInt ≤ 8 := b_a0
  obtain ⟨c0, f_m_claims⟩ : ∃ y : Int32, hl1.2.1 am 36 = y := ⟨_, rfl⟩
  have b_c0 := hT.gi gm tt_10 (k := 36) rfl
  rw [f_m_claims] at b_c0
  have b_c0 : 0 ≤ c0.toInt ∧ c0.toInt ≤ 100 := b_c0
  obtain ⟨m0, f_m_heardMany⟩ : ∃ y : Int32, hl1.2.1 am 57 = y := ⟨_, rfl⟩
  have b_m0 := hT.gi gm tt_10 (k := 57) rfl
  rw [f_m_heardMany] at b_m0
  have b_m0 : 0 ≤ m0.toInt ∧ m0.toInt ≤ 100 := b_m0
  have f_x_now : hl1.2.1 ax 2 = nw := he_nw.trans f_m_now
  have f_x_personCount : hl1.2.1 ax 8 = np := he_np.trans f_m_persons
  obtain ⟨mw, f_mw, g_mw⟩ := hx_rf hT gm tt_10 (k := 19) (u := 57) rfl
  obtain ⟨F_mw, n_mw⟩ : ∃ g : Nat → Int32, hl1.2.1 mw = g := ⟨_, rfl⟩
  obtain ⟨mr, f_mr, g_mr⟩ := hx_rf hT gm tt_10 (k := 3) (u := 50) rfl
  obtain ⟨F_mr, n_mr⟩ : ∃ g : Nat → Int32, hl1.2.1 mr = g := ⟨_, rfl⟩
  obtain ⟨mp, f_mp, g_mp⟩ := hx_rf hT gm tt_10 (k := 5) (u := 52) rfl
  obtain ⟨F_mp, n_mp⟩ : ∃ g : Nat → Int32, hl1.2.1 mp = g := ⟨_, rfl⟩
  obtain ⟨mn, f_mn, g_mn⟩ := hx_rf hT gm tt_10 (k := 4) (u := 51) rfl
  obtain ⟨F_mn, n_mn⟩ : ∃ g : Nat → Int32, hl1.2.1 mn = g := ⟨_, rfl⟩
  obtain ⟨ml, f_ml, g_ml⟩ := hx_rf hT gm tt_10 (k := 44) (u := 79) rfl
  obtain ⟨F_ml, n_ml⟩ : ∃ g : Nat → Int32, hl1.2.1 ml = g := ⟨_, rfl⟩
  obtain ⟨mh, f_mh, g_mh⟩ := hx_rf hT gm tt_10 (k := 47) (u := 82) rfl
  obtain ⟨F_mh, n_mh⟩ : ∃ g : Nat → Int32, hl1.2.1 mh = g := ⟨_, rfl⟩
  obtain ⟨mt, f_mt, g_mt⟩ := hx_rf hT gm tt_10 (k := 45) (u := 80) rfl
  obtain ⟨F_mt, n_mt⟩ : ∃ g : Nat → Int32, hl1.2.1 mt = g := ⟨_, rfl⟩
  have hwd := jw mw f_mw; rw [n_mw] at hwd
  have hWK := jr mr f_mr; rw [n_mr, f_m_acts] at hWK
  have hRP := jp mp mn f_mp f_mn; rw [n_mp, n_mn, f_m_acts] at hRP
  have hPL := jl ml f_ml; rw [n_ml, f_m_claims, f_m_acts] at hPL
  have hHC := jh mh f_mh; rw [n_mh, f_m_heardMany, f_m_claims] at hHC
  have hTR := jt mt f_mt; rw [n_mt] at hTR
  refine lv_aload_n hx hb dL_law_663 rfl (lv_at hl 2 rfl) ?_
  refine lv_aload_n hx hb dL_law_664 rfl (lv_at hl 3 rfl) ?_
  refine lv_iload_n hx hb dL_law_665 rfl (lv_at hl 0 rfl) ?_
  refine lv_iconst (v := 1) hx hb dL_law_666 (by decide) ?_
  refine lv_iadd hx hb dL_law_667 ?_
  have rg_277 := i32_r i
  refine lv_topi (fun x_278 ex_278 => ?_)
  have zx_278 : x_278.toInt = i.toInt + 1 := by rw [ex_278]; exact i32_add rfl (by decide) (by omega) (by omega)
  refine va_sld hx hb hX hbl hbA hW.2.2.2.1 (vp_in_iff.mpr ⟨by omega, by omega⟩) dL_law_668 ?_
  refine lv_topi (fun x_279 ex_279 => ?_)
  refine lv_aload_n hx hb dL_law_669 rfl (lv_at hl 3 rfl) ?_
  refine lv_iload_n hx hb dL_law_670 rfl (lv_at hl 0 rfl) ?_
  refine lv_iconst (v := 2) hx hb dL_law_671 (by decide) ?_
  refine lv_iadd hx hb dL_law_672 ?_
  refine lv_topi (fun x_280 ex_280 => ?_)
  have zx_280 : x_280.toInt = i.toInt + 2 := by rw [ex_280]; exact i32_add rfl (by decide) (by omega) (by omega)
  refine va_sld hx hb hX hbl hbA hW.2.2.2.1 (vp_in_iff.mpr ⟨by omega, by omega⟩) dL_law_673 ?_
  refine lv_topi (fun x_281 ex_281 => ?_)
  refine lv_aload_n hx hb dL_law_674 rfl (lv_at hl 3 rfl) ?_
  refine lv_iload_n hx hb dL_law_675 rfl (lv_at hl 0 rfl) ?_
  refine lv_iconst (v := 3) hx hb dL_law_676 (by decide) ?_
  refine lv_iadd hx hb dL_law_677 ?_
  refine lv_topi (fun x_282 ex_282 => ?_)
  have zx_282 : x_282.toInt = i.toInt + 3 := by rw [ex_282]; exact i32_add rfl (by decide) (by omega) (by omega)
  refine va_sld hx hb hX hbl hbA hW.2.2.2.1 (vp_in_iff.mpr ⟨by omega, by omega⟩) dL_law_678 ?_
  refine lv_topi (fun x_283 ex_283 => ?_)
  refine lv_aload_n hx hb dL_law_679 rfl (lv_at hl 3 rfl) ?_
  refine lv_iload_n hx hb dL_law_680 rfl (lv_at hl 0 rfl) ?_
  refine lv_iconst (v := 4) hx hb dL_law_681 (by decide) ?_
  refine lv_iadd hx hb dL_law_682 ?_
  refine lv_topi (fun x_284 ex_284 => ?_)
  have zx_284 : x_284.toInt = i.toInt + 4 := by rw [ex_284]; exact i32_add rfl (by decide) (by omega) (by omega)
  refine va_sld hx hb hX hbl hbA hW.2.2.2.1 (vp_in_iff.mpr ⟨by omega, by omega⟩) dL_law_683 ?_
  refine lv_topi (fun x_285 ex_285 => ?_)
  refine lv_aload_n hx hb dL_law_684 rfl (lv_at hl 3 rfl) ?_
  refine lv_iload_n hx hb dL_law_685 rfl (lv_at hl 0 rfl) ?_
  refine lv_iconst (v := 5) hx hb dL_law_686 (by decide) ?_
  refine lv_iadd hx hb dL_law_687 ?_
  refine lv_topi (fun x_286 ex_286 => ?_)
  have zx_286 : x_286.toInt = i.toInt + 5 := by rw [ex_286]; exact i32_add rfl (by decide) (by omega) (by omega)
  refine va_sld hx hb hX hbl hbA hW.2.2.2.1 (vp_in_iff.mpr ⟨by omega, by omega⟩) dL_law_688 ?_
  refine lv_topi (fun x_287 ex_287 => ?_)
  have jn_697 : ∀ (xj_288 : Int32) (ls : Array Slot), 0 ≤ xj_288.toInt → xj_288.toInt ≤ 1 → lv_has ls 4 [(3, .int i), (2, .ref am), (1, .ref ax), (0, .ref b)] → W p l e room_1 s m #[Value.ref b] below meth c H locs (CC) (SS) (lw_Z below #[Value.ref b] s) (F0 m 697 ls [.int xj_288, .int x_285, .int x_283, .int x_281, .int x_279, .ref ax]) := by
    intro xj_288 ls blxj_288 buxj_288 hl
    refine lv_aload_n hx hb dL_law_697 rfl (lv_at hl 3 rfl) ?_
    refine lv_iload_n hx hb dL_law_698 rfl (lv_at hl 0 rfl) ?_
    refine lv_bipush (v := 6) hx hb dL_law_699 (by decide) ?_
    refine lv_iadd hx hb dL_law_701 ?_
    refine lv_topi (fun x_289 ex_289 => ?_)
    have zx_289 : x_289.toInt = i.toInt + 6 := by rw [ex_289]; exact i32_add rfl (by decide) (by omega) (by omega)
    refine va_sld hx hb hX hbl hbA hW.2.2.2.1 (vp_in_iff.mpr ⟨by omega, by omega⟩) dL_law_702 ?_
    refine lv_topi (fun x_290 ex_290 => ?_)
    refine hx_goi (hx_runV (As := [.int x_279, .int x_281, .int x_283, .int x_285, .int xj_288, .int x_290]) (rest := []) ⟨hx, hb, hml, hown, hts⟩ hW gx tt_9 (T := TX9) (N := 20) rfl (t_X9_file l dC dI dA L1 hl1 H.size ax x_279 x_281 x_283 x_285 xj_288 x_290 hT gx qp g_qp f_qp qc g_qc f_qc qa g_qa f_qa pf_qp pf_qc pf_qa) (cwV 6 hts (hx_gV kw_715 kw_712 kw_713 kw_714 kw_94) rfl rfl rfl (by decide +kernel) ⟨Nat.le_of_ble_eq_true rfl, Nat.le_of_ble_eq_true rfl⟩) rfl hl.1 rfl (Nat.le_of_ble_eq_true rfl) dL_law_703 ⟨(show CC + 3 ≤ 600000 from by omega), (show SS + 30 ≤ 7302250 from by omega)⟩) hW (fun r_293 L_291 h_292 H locs p_294 hW => ?_)
    obtain ⟨hr_295, hT, hs, pf_296⟩ := p_294
    have hT : hx_T T_tb L_291 h_292 := hT
    have hs : hx_S T_tb [(2, 6), (2, 7), (2, 8), (9, 11), (20, 0), (21, 0), (45, 0), (118, 0), (118, 1), (118, 2), (118, 3), (118, 4), (118, 5), (118, 10), (118, 11), (118, 13), (118, 16), (118, 18)] L1 hl1 L_291 h_292 := hs
    have f_qa := (hs.o gx trivial rfl).2.trans f_qa
    have f_qp := (hs.o gx trivial rfl).2.trans f_qp
    have f_qc := (hs.o gx trivial rfl).2.trans f_qc
    have f_qh := (hs.o gx trivial rfl).2.trans f_qh
    have f_qw := (hs.o gx trivial rfl).2.trans f_qw
    have f_ql := (hs.o g_qw trivial rfl).2.trans f_ql
    have f_m_now := (hs.o gm trivial rfl).1.trans f_m_now
    have f_m_persons := (hs.o gm trivial rfl).1.trans f_m_persons
    have f_m_acts := (hs.o gm trivial rfl).1.trans f_m_acts
    have f_m_claims := (hs.o gm trivial rfl).1.trans f_m_claims
    have f_m_heardMany := (hs.o gm trivial rfl).1.trans f_m_heardMany
    have f_x_now := (hs.o gx trivial rfl).1.trans f_x_now
    have f_x_personCount := (hs.o gx trivial rfl).1.trans f_x_personCount
    have f_mw := (hs.o gm trivial rfl).2.trans f_mw
    have f_mr := (hs.o gm trivial rfl).2.trans f_mr
    have f_mp := (hs.o gm trivial rfl).2.trans f_mp
    have f_mn := (hs.o gm trivial rfl).2.trans f_mn
    have f_ml := (hs.o gm trivial rfl).2.trans f_ml
    have f_mh := (hs.o gm trivial rfl).2.trans f_mh
    have f_mt := (hs.o gm trivial rfl).2.trans f_mt
    have pf_qa : ∀ j : Nat, (j : Int) < (h_292.2.1 ax 6).toInt → h_292.2.2 qa j ≠ none := by
      intro j hj; rw [(hs.o gx trivial rfl).1] at hj; rw [(hs.a g_qa rfl j).2]; exact pf_qa j hj
    have pf_qp : ∀ j : Nat, (j : Int) < (h_292.2.1 ax 8).toInt → h_292.2.2 qp j ≠ none := by
      intro j hj; rw [(hs.o gx trivial rfl).1] at hj; rw [(hs.a g_qp rfl j).2]; exact pf_qp j hj
    have pf_qh : ∀ j : Nat, (j : Int) < (h_292.2.1 ax 13).toInt → h_292.2.2 qh j ≠ none := by
      intro j hj; rw [(hs.o gx trivial rfl).1] at hj; rw [(hs.a g_qh rfl j).2]; exact pf_qh j hj
    have pf_ql : ∀ j : Nat, (j : Int) < (h_292.2.1 qw 0).toInt → h_292.2.2 ql j ≠ none := by
      intro j hj; rw [(hs.o g_qw trivial rfl).1] at hj; rw [(hs.a g_ql rfl j).2]; exact pf_ql j hj
    have n_mw : h_292.2.1 mw = F_mw := (funext fun j => (hs.a g_mw rfl j).1).trans n_mw
    have n_mr : h_292.2.1 mr = F_mr := (funext fun j => (hs.a g_mr rfl j).1).trans n_mr
    have n_mp : h_292.2.1 mp = F_mp := (funext fun j => (hs.a g_mp rfl j).1).trans n_mp
    have n_mn : h_292.2.1 mn = F_mn := (funext fun j => (hs.a g_mn rfl j).1).trans n_mn
    have n_ml : h_292.2.1 ml = F_ml := (funext fun j => (hs.a g_ml rfl j).1).trans n_ml
    have n_mh : h_292.2.1 mh = F_mh := (funext fun j => (hs.a g_mh rfl j).1).trans n_mh
    have n_mt : h_292.2.1 mt = F_mt := (funext fun j => (hs.a g_mt rfl j).1).trans n_mt
    have gx := gx.S hs
    have gm := gm.S hs
    have g_qa := g_qa.S hs
    have g_qp := g_qp.S hs
    have g_qc := g_qc.S hs
    have g_qh := g_qh.S hs
    have g_qw := g_qw.S hs
    have g_ql := g_ql.S hs
    have g_mw := g_mw.S hs
    have g_mr := g_mr.S hs
    have g_mp := g_mp.S hs
    have g_mn := g_mn.S hs
    have g_ml := g_ml.S hs
    have g_mh := g_mh.S hs
    have g_mt := g_mt.S hs
    have pf_296 : ∀ j : Nat, (j : Int) < (h_292.2.1 ax 11).toInt → h_292.2.2 qc j ≠ none := pf_296
    refine lv_pop hx hb dL_law_706 rfl ?_
    refine lv_aload_n hx hb dL_law_707 rfl (lv_at hl 1 rfl) ?_
    refine lv_aload_n hx hb dL_law_708 rfl (lv_at hl 3 rfl) ?_
    refine lv_iload_n hx hb dL_law_709 rfl (lv_at hl 0 rfl) ?_
    refine lv_iconst (v := 1) hx hb dL_law_710 (by decide) ?_
    refine lv_iadd hx hb dL_law_711 ?_
    refine lv_topi (fun x_297 ex_297 => ?_)
    have zx_297 : x_297.toInt = i.toInt + 1 := by rw [ex_297]; exact i32_add rfl (by decide) (by omega) (by omega)
    obtain rfl : x_278 = x_297 := ex_278.trans ex_297.symm
    refine va_sld hx hb hX hbl hbA hW.2.2.2.1 (vp_in_iff.mpr ⟨by omega, by omega⟩) dL_law_712 ?_
    refine lv_topi (fun x_298 ex_298 => ?_)
    obtain rfl : x_279 = x_298 := ex_279.trans ex_298.symm
    refine lv_aload_n hx hb dL_law_713 rfl (lv_at hl 3 rfl) ?_
    refine lv_iload_n hx hb dL_law_714 rfl (lv_at hl 0 rfl) ?_
    refine lv_iconst (v := 2) hx hb dL_law_715 (by decide) ?_
    refine lv_iadd hx hb dL_law_716 ?_
    refine lv_topi (fun x_299 ex_299 => ?_)
    have zx_299 : x_299.toInt = i.toInt + 2 := by rw [ex_299]; exact i32_add rfl (by decide) (by omega) (by omega)
    obtain rfl : x_280 = x_299 := ex_280.trans ex_299.symm
    refine va_sld hx hb hX hbl hbA hW.2.2.2.1 (vp_in_iff.mpr ⟨by omega, by omega⟩) dL_law_717 ?_
    refine lv_topi (fun x_300 ex_300 => ?_)
    obtain rfl : x_281 = x_300 := ex_281.trans ex_300.symm
    refine lv_aload_n hx hb dL_law_718 rfl (lv_at hl 3 rfl) ?_
    refine lv_iload_n hx hb dL_law_719 rfl (lv_at hl 0 rfl) ?_
    refine lv_iconst (v := 3) hx hb dL_law_720 (by decide) ?_
    refine lv_iadd hx hb dL_law_721 ?_
    refine lv_topi (fun x_301 ex_301 => ?_)
    have zx_301 : x_301.toInt = i.toInt + 3 := by rw [ex_301]; exact i32_add rfl (by decide) (by omega) (by omega)
    obtain rfl : x_282 = x_301 := ex_282.trans ex_301.symm
    refine va_sld hx hb hX hbl hbA hW.2.2.2.1 (vp_in_iff.mpr ⟨by omega, by omega⟩) dL_law_722 ?_
    refine lv_topi (fun x_302 ex_302 => ?_)
    obtain rfl : x_283 = x_302 := ex_283.trans ex_302.symm
    refine lv_aload_n hx hb dL_law_723 rfl (lv_at hl 3 rfl) ?_
    refine lv_iload_n hx hb dL_law_724 rfl (lv_at hl 0 rfl) ?_
    refine lv_iconst (v := 4) hx hb dL_law_725 (by decide) ?_
    refine lv_iadd hx hb dL_law_726 ?_
    refine lv_topi (fun x_303 ex_303 => ?_)
    have zx_303 : x_303.toInt = i.toInt + 4 := by rw [ex_303]; exact i32_add rfl (by decide) (by omega) (by omega)
    obtain rfl : x_284 = x_303 := ex_284.trans ex_303.symm
    refine va_sld hx hb hX hbl hbA hW.2.2.2.1 (vp_in_iff.mpr ⟨by omega, by omega⟩) dL_law_727 ?_
    refine lv_topi (fun x_304 ex_304 => ?_)
    obtain rfl : x_285 = x_304 := ex_285.trans ex_304.symm
    refine lv_aload_n hx hb dL_law_728 rfl (lv_at hl 3 rfl) ?_
    refine lv_iload_n hx hb dL_law_729 rfl (lv_at hl 0 rfl) ?_
    refine lv_iconst (v := 5) hx hb dL_law_730 (by decide) ?_
    refine lv_iadd hx hb dL_law_731 ?_
    refine lv_topi (fun x_305 ex_305 => ?_)
    have zx_305 : x_305.toInt = i.toInt + 5 := by rw [ex_305]; exact i32_add rfl (by decide) (by omega) (by omega)
    obtain rfl : x_286 = x_305 := ex_286.trans ex_305.symm
    refine va_sld hx hb hX hbl hbA hW.2.2.2.1 (vp_in_iff.mpr ⟨by omega, by omega⟩) dL_law_732 ?_
    refine lv_topi (fun x_306 ex_306 => ?_)
    obtain rfl : x_287 = x_306 := ex_287.trans ex_306.symm
    have jn_741 : ∀ (xj_307 : Int32) (ls : Array Slot), 0 ≤ xj_307.toInt → xj_307.toInt ≤ 1 → lv_has ls 4 [(3, .int i), (2, .ref am), (1, .ref ax), (0, .ref b)] → W p l e room_1 s m #[Value.ref b] below meth c H locs (CC + 3) (SS + 30) (lw_Z below #[Value.ref b] s) (F0 m 741 ls [.int xj_307, .int x_285, .int x_283, .int x_281, .int x_279, .ref am]) := by
      intro xj_307 ls blxj_307 buxj_307 hl
      refine lv_aload_n hx hb dL_law_741 rfl (lv_at hl 3 rfl) ?_
      refine lv_iload_n hx hb dL_law_742 rfl (lv_at hl 0 rfl) ?_
      refine lv_bipush (v := 6) hx hb dL_law_743 (by decide) ?_
      refine lv_iadd hx hb dL_law_745 ?_
      refine lv_topi (fun x_308 ex_308 => ?_)
      have zx_308 : x_308.toInt = i.toInt + 6 := by rw [ex_308]; exact i32_add rfl (by decide) (by omega) (by omega)
      obtain rfl : x_289 = x_308 := ex_289.trans ex_308.symm
      refine va_sld hx hb hX hbl hbA hW.2.2.2.1 (vp_in_iff.mpr ⟨by omega, by omega⟩) dL_law_746 ?_
      refine lv_topi (fun x_309 ex_309 => ?_)
      obtain rfl : x_290 = x_309 := ex_290.trans ex_309.symm
      refine hx_goi (hx_runV (As := [.int x_279, .int x_281, .int x_283, .int x_285, .int xj_307, .int x_290]) (rest := []) ⟨hx, hb, hml, hown, hts⟩ hW gm tt_10 (T := TX10) (N := 98) rfl (t_X10_file_2 l dC dI dA L_291 h_292 H.size am x_279 x_281 x_283 x_285 xj_307 x_290 hT gm mh g_mh f_mh ml g_ml f_ml F_mh n_mh F_ml n_ml a0 f_m_acts c0 f_m_claims m0 f_m_heardMany hPL hHC) (cwV 6 hts (hx_gV kw_1589 kw_1586 kw_1587 kw_1588 kw_103) rfl rfl rfl (by decide +kernel) ⟨Nat.le_of_ble_eq_true rfl, Nat.le_of_ble_eq_true rfl⟩) rfl hl.1 rfl (Nat.le_of_ble_eq_true rfl) dL_law_747 ⟨(show CC + 3 + 0 ≤ 600000 from by omega), (show SS + 30 + 0 ≤ 7302250 from by omega)⟩) hW (fun r_312 L_310 h_311 H locs p_313 hW => ?_)
      obtain ⟨⟨w_315, w_316, w_317, fw_315, fw_316, fw_317, hr_314⟩, hT, hs⟩ := p_313
      have hT : hx_T T_tb L_310 h_311 := hT
      have hs : hx_S T_tb [(10, 36), (72, 0), (73, 0), (74, 0), (75, 0), (76, 0), (77, 0), (78, 0), (79, 0), (81, 0), (82, 0), (83, 0), (84, 0), (85, 0), (87, 0)] L_291 h_292 L_310 h_311 := hs
      have f_qa := (hs.o gx trivial rfl).2.trans f_qa
      have f_qp := (hs.o gx trivial rfl).2.trans f_qp
      have f_qc := (hs.o gx trivial rfl).2.trans f_qc
      have f_qh := (hs.o gx trivial rfl).2.trans f_qh
      have f_qw := (hs.o gx trivial rfl).2.trans f_qw
      have f_ql := (hs.o g_qw trivial rfl).2.trans f_ql
      have f_m_now := (hs.o gm trivial rfl).1.trans f_m_now
      have f_m_persons := (hs.o gm trivial rfl).1.trans f_m_persons
      have f_m_acts := (hs.o gm trivial rfl).1.trans f_m_acts
      have f_m_heardMany := (hs.o gm trivial rfl).1.trans f_m_heardMany
      have f_x_now := (hs.o gx trivial rfl).1.trans f_x_now
      have f_x_personCount := (hs.o gx trivial rfl).1.trans f_x_personCount
      have f_mw := (hs.o gm trivial rfl).2.trans f_mw
      have f_mr := (hs.o gm trivial rfl).2.trans f_mr
      have f_mp := (hs.o gm trivial rfl).2.trans f_mp
      have f_mn := (hs.o gm trivial rfl).2.trans f_mn
      have f_ml := (hs.o gm trivial rfl).2.trans f_ml
      have f_mh := (hs.o gm trivial rfl).2.trans f_mh
      have f_mt := (hs.o gm trivial rfl).2.trans f_mt
      have pf_qa : ∀ j : Nat, (j : Int) < (h_311.2.1 ax 6).toInt → h_311.2.2 qa j ≠ none := by
        intro j hj; rw [(hs.o gx trivial rfl).1] at hj; rw [(hs.a g_qa rfl j).2]; exact pf_qa j hj
      have pf_qp : ∀ j : Nat, (j : Int) < (h_311.2.1 ax 8).toInt → h_311.2.2 qp j ≠ none := by
        intro j hj; rw [(hs.o gx trivial rfl).1] at hj; rw [(hs.a g_qp rfl j).2]; exact pf_qp j hj
      have pf_qh : ∀ j : Nat, (j : Int) < (h_311.2.1 ax 13).toInt → h_311.2.2 qh j ≠ none := by
        intro j hj; rw [(hs.o gx trivial rfl).1] at hj; rw [(hs.a g_qh rfl j).2]; exact pf_qh j hj
      have pf_ql : ∀ j : Nat, (j : Int) < (h_311.2.1 qw 0).toInt → h_311.2.2 ql j ≠ none := by
        intro j hj; rw [(hs.o g_qw trivial rfl).1] at hj; rw [(hs.a g_ql rfl j).2]; exact pf_ql j hj
      have pf_296 : ∀ j : Nat, (j : Int) < (h_311.2.1 ax 11).toInt → h_311.2.2 qc j ≠ none := by
        intro j hj; rw [(hs.o gx trivial rfl).1] at hj; rw [(hs.a g_qc rfl j).2]; exact pf_296 j hj
      have n_mw : h_311.2.1 mw = F_mw := (funext fun j => (hs.a g_mw rfl j).1).trans n_mw
      have n_mr : h_311.2.1 mr = F_mr := (funext fun j => (hs.a g_mr rfl j).1).trans n_mr
      have n_mp : h_311.2.1 mp = F_mp := (funext fun j => (hs.a g_mp rfl j).1).trans n_mp
      have n_mn : h_311.2.1 mn = F_mn := (funext fun j => (hs.a g_mn rfl j).1).trans n_mn
      have n_mt : h_311.2.1 mt = F_mt := (funext fun j => (hs.a g_mt rfl j).1).trans n_mt
      have gx := gx.S hs
      have gm := gm.S hs
      have g_qa := g_qa.S hs
      have g_qp := g_qp.S hs
      have g_qc := g_qc.S hs
      have g_qh := g_qh.S hs
      have g_qw := g_qw.S hs
      have g_ql := g_ql.S hs
      have g_mw := g_mw.S hs
      have g_mr := g_mr.S hs
      have g_mp := g_mp.S hs
      have g_mn := g_mn.S hs
      have g_ml := g_ml.S hs
      have g_mh := g_mh.S hs
      have g_mt := g_mt.S hs
      have fw_315 : h_311.2.1 am 36 = w_315 := fw_315
      have bw_315 := hT.gi gm tt_10 (k := 36) rfl
      rw [fw_315] at bw_315
      have bw_315 : 0 ≤ w_315.toInt ∧ w_315.toInt ≤ 100 := bw_315
      have fw_316 : h_311.2.1 mh = w_316 := fw_316
      have fw_317 : h_311.2.1 ml = w_317 := fw_317
      refine lv_pop hx hb dL_law_750 rfl ?_
      refine lv_goto (tgt := 1379) hx hb dL_law_751 (by decide) ?_
      refine W.widen (k := CC + 3) (n := SS + 179) (by omega) (by omega) ?_
      exact kk L_310 h_311 H locs ls hW ⟨hT, gx, gm, ⟨f_x_now.trans f_m_now.symm, f_x_personCount.trans f_m_persons.symm, trivial⟩, ⟨hx_ob f_qa pf_qa, hx_ob f_qp pf_qp, hx_ob f_qc pf_296, hx_ob f_qh pf_qh, (fun w q hw hq => by obtain rfl : qw = w := Option.some.inj (f_qw.symm.trans hw); obtain rfl : ql = q := Option.some.inj (f_ql.symm.trans hq); exact pf_ql)⟩, ⟨hx_ob f_mw (by rw [n_mw]; exact hwd), hx_ob f_mr (by rw [n_mr, f_m_acts]; exact hWK), hx_ob2 f_mp f_mn (by rw [n_mp, n_mn, f_m_acts]; exact hRP), hx_ob f_ml (by rw [fw_317, fw_315, f_m_acts]; exact hr_314.2), hx_ob f_mh (by rw [fw_316, f_m_heardMany, fw_315]; exact hr_314.1), hx_ob f_mt (by rw [n_mt]; exact (hx_TR_le hTR (by omega)))⟩⟩ hl
    refine hb_if_eq (zx := x_287.toInt) (tgt := 740) hx hb rfl dL_law_733 (by decide) (fun c_318 => ?_) (fun c_318 => ?_)
    · skip
      refine lv_iconst (v := 0) hx hb dL_law_740 (by decide) ?_
      exact jn_741 (0 : Int32) ls (by decide) (by decide) hl
    · skip
      refine lv_iconst (v := 1) hx hb dL_law_736 (by decide) ?_
      refine lv_goto (tgt := 741) hx hb dL_law_737 (by decide) ?_
      exact jn_741 (1 : Int32) ls (by decide) (by decide) hl
  refine hb_if_eq (zx := x_287.toInt) (tgt := 696) hx hb rfl dL_law_689 (by decide) (fun c_319 => ?_) (fun c_319 => ?_)
  · skip
    refine lv_iconst (v := 0) hx hb dL_law_696 (by decide) ?_
    exact jn_697 (0 : Int32) ls (by decide) (by decide) hl
  · skip
    refine lv_iconst (v := 1) hx hb dL_law_692 (by decide) ?_
    refine lv_goto (tgt := 697) hx hb dL_law_693 (by decide) ?_
    exact jn_697 (1 : Int32) ls (by decide) (by decide) hl

set_option maxHeartbeats 4000000 in
set_option maxRecDepth 100000 in
theorem law_case_12 {p : Program} {e : Env} {s : State} {m : MethodId} {below : List Frame} {meth : Method} {c : Code} (l : Launch) {b LN : Nat} {xs : Nat → Int32} (hx : p.tables.exec = Jvm.exec) (hb : c.code = code) (hr : meth.sig.returnType = ret) (hlocks : meth.locks = false) (hml : c.maxLocals = 4) (hown : s.vm.findClass "SmallCourtLaw" = some m.cls) (hts : ∀ w ∈ hx_all, w.before #[Value.ref b] s = true) (hX : va_X b LN xs s s.heap) (hbl : b < s.heap.size) (hbA : ¬ s.heap.size ≤ b) (hLN : LN ≤ 3584) (dC : Nat → ClassId) (dI : Nat → Nat → Nat) (dA : Nat → ClassId) (b0 : hx_z) (ax am : Nat) (T1 : Int) (hT0 : 0 ≤ T1) (hT1 : T1 ≤ 511) (i : Int32) (hi0 : 0 ≤ i.toInt) (hiL : i.toInt + 7 ≤ LN) (CC SS : Nat) (hCC : CC + 3 ≤ 600000) (hSS : SS + 179 ≤ 7302250) (L1 : List Nat) (hl1 : hx_h) (H : Heap) (locs : List Loc) (ls : Array Slot) (hW : hx_W T_tb (P_ty dA) (dC, dI) vwCl (fun q : Nat => s.heap.size ≤ q) s.heap L1 hl1 s H locs) (hZ : hx_Xt (fun q : Nat => s.heap.size ≤ q) b0 s) (hI : hx_IV T1 ax am L1 hl1) (hl : lv_has ls 4 [(3, .int i), (2, .ref am), (1, .ref ax), (0, .ref b)]) (kk : ∀ (L2 : List Nat) (h2 : hx_h) (H2 : Heap) (locs2 : List Loc) (ls2 : Array Slot), hx_W T_tb (P_ty dA) (dC, dI) vwCl (fun q : Nat => s.heap.size ≤ q) s.heap L2 h2 s H2 locs2 → hx_IV (T1 + 1) ax am L2 h2 → lv_has ls2 4 [(3, .int i), (2, .ref am), (1, .ref ax), (0, .ref b)] → W p l e room_1 s m #[Value.ref b] below meth c H2 locs2 (CC + 3) (SS + 179) (lw_Z below #[Value.ref b] s) (F0 m 1379 ls2 [])) : W p l e room_1 s m #[Value.ref b] below meth c H locs CC SS (lw_Z below #[Value.ref b] s) (F0 m 754 ls []) := by
  obtain ⟨hT, gx, gm, ⟨he_nw, he_np, -⟩, ⟨ia, ip, ic, ih, il⟩, ⟨jw, jr, jp, jl, jh, jt⟩⟩ := hI
  obtain ⟨qa, f_qa, g_qa⟩ := hx_rf hT gx tt_9 (k := 5) (u := 43) rfl
  have pf_qa := ia qa f_qa
  obtain ⟨qp, f_qp, g_qp⟩ := hx_rf hT gx tt_9 (k := 7) (u := 44) rfl
  have pf_qp := ip qp f_qp
  obtain ⟨qc, f_qc, g_qc⟩ := hx_rf hT gx tt_9 (k := 10) (u := 45) rfl
  have pf_qc := ic qc f_qc
  obtain ⟨qh, f_qh, g_qh⟩ := hx_rf hT gx tt_9 (k := 12) (u := 46) rfl
  have pf_qh := ih qh f_qh
  obtain ⟨qw, f_qw, g_qw⟩ := hx_rf hT gx tt_9 (k := 19) (u := 8) rfl
  obtain ⟨ql, f_ql, g_ql⟩ := hx_rf hT g_qw tt_8 (k := 3) (u := 40) rfl
  have pf_ql := il qw ql f_qw f_ql
  obtain ⟨nw, f_m_now⟩ : ∃ y : Int32, hl1.2.1 am 0 = y := ⟨_, rfl⟩
  have b_nw := hT.gi gm tt_10 (k := 0) rfl
  rw [f_m_now] at b_nw
  have b_nw : 0 ≤ nw.toInt ∧ nw.toInt ≤ 7999 := b_nw
  obtain ⟨np, f_m_persons⟩ : ∃ y : Int32, hl1.2.1 am 20 = y := ⟨_, rfl⟩
  have b_np := hT.gi gm tt_10 (k := 20) rfl
  rw [f_m_persons] at b_np
  have b_np : 0 ≤ np.toInt ∧ np.toInt ≤ 40 := b_np
  obtain ⟨a0, f_m_acts⟩ : ∃ y : Int32, hl1.2.1 am 1 = y := ⟨_, rfl⟩
  have b_a0 := hT.gi gm tt_10 (k := 1) rfl
  rw [f_m_acts] at b_a0
  have b_a0 : 0 ≤ a0.toInt ∧ a0.toInt ≤ 8 := b_a0
  obtain ⟨c0, f_m_claims⟩ : ∃ y : Int32, hl1.2.1 am 36 = y := ⟨_, rfl⟩
  have b_c0 := hT.gi gm tt_10 (k := 36) rfl
  rw [f_m_claims] at b_c0
  have b_c0 : 0 ≤ c0.toInt ∧ c0.toInt ≤ 100 := b_c0
  obtain ⟨m0, f_m_heardMany⟩ : ∃ y : Int32, hl1.2.1 am 57 = y := ⟨_, rfl⟩
  have b_m0 := hT.gi gm tt_10 (k := 57) rfl
  rw [f_m_heardMany] at b_m0
  have b_m0 : 0 ≤ m0.toInt ∧ m0.toInt ≤ 100 := b_m0
  have f_x_now : hl1.2.1 ax 2 = nw := he_nw.trans f_m_now
  have f_x_personCount : hl1.2.1 ax 8 = np := he_np.trans f_m_persons
  obtain ⟨mw, f_mw, g_mw⟩ := hx_rf hT gm tt_10 (k := 19) (u := 57) rfl
  obtain ⟨F_mw, n_mw⟩ : ∃ g : Nat → Int32, hl1.2.1 mw = g := ⟨_, rfl⟩
  obtain ⟨mr, f_mr, g_mr⟩ := hx_rf hT gm tt_10 (k := 3) (u := 50) rfl
  obtain ⟨F_mr, n_mr⟩ : ∃ g : Nat → Int32, hl1.2.1 mr = g := ⟨_, rfl⟩
  obtain ⟨mp, f_mp, g_mp⟩ := hx_rf hT gm tt_10 (k := 5) (u := 52) rfl
  obtain ⟨F_mp, n_mp⟩ : ∃ g : Nat → Int32, hl1.2.1 mp = g := ⟨_, rfl⟩
  obtain ⟨mn, f_mn, g_mn⟩ := hx_rf hT gm tt_10 (k := 4) (u := 51) rfl
  obtain ⟨F_mn, n_mn⟩ : ∃ g : Nat → Int32, hl1.2.1 mn = g := ⟨_, rfl⟩
  obtain ⟨ml, f_ml, g_ml⟩ := hx_rf hT gm tt_10 (k := 44) (u := 79) rfl
  obtain ⟨F_ml, n_ml⟩ : ∃ g : Nat → Int32, hl1.2.1 ml = g := ⟨_, rfl⟩
  obtain ⟨mh, f_mh, g_mh⟩ := hx_rf hT gm tt_10 (k := 47) (u := 82) rfl
  obtain ⟨F_mh, n_mh⟩ : ∃ g : Nat → Int32, hl1.2.1 mh = g := ⟨_, rfl⟩
  obtain ⟨mt, f_mt, g_mt⟩ := hx_rf hT gm tt_10 (k := 45) (u := 80) rfl
  obtain ⟨F_mt, n_mt⟩ : ∃ g : Nat → Int32, hl1.2.1 mt = g := ⟨_, rfl⟩
  have hwd := jw mw f_mw; rw [n_mw] at hwd
  have hWK := jr mr f_mr; rw [n_mr, f_m_acts] at hWK
  have hRP := jp mp mn f_mp f_mn; rw [n_mp, n_mn, f_m_acts] at hRP
  have hPL := jl ml f_ml; rw [n_ml, f_m_claims, f_m_acts] at hPL
  have hHC := jh mh f_mh; rw [n_mh, f_m_heardMany, f_m_claims] at hHC
  have hTR := jt mt f_mt; rw [n_mt] at hTR
  refine lv_aload_n hx hb dL_law_754 rfl (lv_at hl 2 rfl) ?_
  refine lv_aload_n hx hb dL_law_755 rfl (lv_at hl 3 rfl) ?_
  refine lv_iload_n hx hb dL_law_756 rfl (lv_at hl 0 rfl) ?_
  refine lv_iconst (v := 1) hx hb dL_law_757 (by decide) ?_
  refine lv_iadd hx hb dL_law_758 ?_
  have rg_320 := i32_r i
  refine lv_topi (fun x_321 ex_321 => ?_)
  have zx_321 : x_321.toInt = i.toInt + 1 := by rw [ex_321]; exact i32_add rfl (by decide) (by omega) (by omega)
  refine va_sld hx hb hX hbl hbA hW.2.2.2.1 (vp_in_iff.mpr ⟨by omega, by omega⟩) dL_law_759 ?_
  refine lv_topi (fun x_322 ex_322 => ?_)
  refine lv_aload_n hx hb dL_law_760 rfl (lv_at hl 3 rfl) ?_
  refine lv_iload_n hx hb dL_law_761 rfl (lv_at hl 0 rfl) ?_
  refine lv_iconst (v := 2) hx hb dL_law_762 (by decide) ?_
  refine lv_iadd hx hb dL_law_763 ?_
  refine lv_topi (fun x_323 ex_323 => ?_)
  have zx_323 : x_323.toInt = i.toInt + 2 := by rw [ex_323]; exact i32_add rfl (by decide) (by omega) (by omega)
  refine va_sld hx hb hX hbl hbA hW.2.2.2.1 (vp_in_iff.mpr ⟨by omega, by omega⟩) dL_law_764 ?_
  refine lv_topi (fun x_324 ex_324 => ?_)
  have jn_773 : ∀ (xj_325 : Int32) (ls : Array Slot), 0 ≤ xj_325.toInt → xj_325.toInt ≤ 1 → lv_has ls 4 [(3, .int i), (2, .ref am), (1, .ref ax), (0, .ref b)] → W p l e room_1 s m #[Value.ref b] below meth c H locs (CC) (SS) (lw_Z below #[Value.ref b] s) (F0 m 773 ls [.int xj_325, .int x_322, .ref ax]) := by
    intro xj_325 ls blxj_325 buxj_325 hl
    refine hx_goi (hx_runV (As := [.int x_322, .int xj_325]) (rest := []) ⟨hx, hb, hml, hown, hts⟩ hW gx tt_9 (T := TX9) (N := 20) rfl (t_X9_summons l dC dI dA L1 hl1 H.size ax x_322 xj_325 hT gx qc g_qc f_qc pf_qc) (cwV 2 hts (hx_gV kw_806 kw_803 kw_804 kw_805 kw_94) rfl rfl rfl (by decide +kernel) ⟨Nat.le_of_ble_eq_true rfl, Nat.le_of_ble_eq_true rfl⟩) rfl hl.1 rfl (Nat.le_of_ble_eq_true rfl) dL_law_773 ⟨(show CC + 0 ≤ 600000 from by omega), (show SS + 0 ≤ 7302250 from by omega)⟩) hW (fun r_328 L_326 h_327 H locs p_329 hW => ?_)
    obtain ⟨hr_330, hT, hs⟩ := p_329
    have hT : hx_T T_tb L_326 h_327 := hT
    have hs : hx_S T_tb [(2, 9), (2, 10)] L1 hl1 L_326 h_327 := hs
    have f_qa := (hs.o gx trivial rfl).2.trans f_qa
    have f_qp := (hs.o gx trivial rfl).2.trans f_qp
    have f_qc := (hs.o gx trivial rfl).2.trans f_qc
    have f_qh := (hs.o gx trivial rfl).2.trans f_qh
    have f_qw := (hs.o gx trivial rfl).2.trans f_qw
    have f_ql := (hs.o g_qw trivial rfl).2.trans f_ql
    have f_m_now := (hs.o gm trivial rfl).1.trans f_m_now
    have f_m_persons := (hs.o gm trivial rfl).1.trans f_m_persons
    have f_m_acts := (hs.o gm trivial rfl).1.trans f_m_acts
    have f_m_claims := (hs.o gm trivial rfl).1.trans f_m_claims
    have f_m_heardMany := (hs.o gm trivial rfl).1.trans f_m_heardMany
    have f_x_now := (hs.o gx trivial rfl).1.trans f_x_now
    have f_x_personCount := (hs.o gx trivial rfl).1.trans f_x_personCount
    have f_mw := (hs.o gm trivial rfl).2.trans f_mw
    have f_mr := (hs.o gm trivial rfl).2.trans f_mr
    have f_mp := (hs.o gm trivial rfl).2.trans f_mp
    have f_mn := (hs.o gm trivial rfl).2.trans f_mn
    have f_ml := (hs.o gm trivial rfl).2.trans f_ml
    have f_mh := (hs.o gm trivial rfl).2.trans f_mh
    have f_mt := (hs.o gm trivial rfl).2.trans f_mt
    have pf_qa : ∀ j : Nat, (j : Int) < (h_327.2.1 ax 6).toInt → h_327.2.2 qa j ≠ none := by
      intro j hj; rw [(hs.o gx trivial rfl).1] at hj; rw [(hs.a g_qa rfl j).2]; exact pf_qa j hj
    have pf_qp : ∀ j : Nat, (j : Int) < (h_327.2.1 ax 8).toInt → h_327.2.2 qp j ≠ none := by
      intro j hj; rw [(hs.o gx trivial rfl).1] at hj; rw [(hs.a g_qp rfl j).2]; exact pf_qp j hj
    have pf_qc : ∀ j : Nat, (j : Int) < (h_327.2.1 ax 11).toInt → h_327.2.2 qc j ≠ none := by
      intro j hj; rw [(hs.o gx trivial rfl).1] at hj; rw [(hs.a g_qc rfl j).2]; exact pf_qc j hj
    have pf_qh : ∀ j : Nat, (j : Int) < (h_327.2.1 ax 13).toInt → h_327.2.2 qh j ≠ none := by
      intro j hj; rw [(hs.o gx trivial rfl).1] at hj; rw [(hs.a g_qh rfl j).2]; exact pf_qh j hj
    have pf_ql : ∀ j : Nat, (j : Int) < (h_327.2.1 qw 0).toInt → h_327.2.2 ql j ≠ none := by
      intro j hj; rw [(hs.o g_qw trivial rfl).1] at hj; rw [(hs.a g_ql rfl j).2]; exact pf_ql j hj
    have n_mw : h_327.2.1 mw = F_mw := (funext fun j => (hs.a g_mw rfl j).1).trans n_mw
    have n_mr : h_327.2.1 mr = F_mr := (funext fun j => (hs.a g_mr rfl j).1).trans n_mr
    have n_mp : h_327.2.1 mp = F_mp := (funext fun j => (hs.a g_mp rfl j).1).trans n_mp
    have n_mn : h_327.2.1 mn = F_mn := (funext fun j => (hs.a g_mn rfl j).1).trans n_mn
    have n_ml : h_327.2.1 ml = F_ml := (funext fun j => (hs.a g_ml rfl j).1).trans n_ml
    have n_mh : h_327.2.1 mh = F_mh := (funext fun j => (hs.a g_mh rfl j).1).trans n_mh
    have n_mt : h_327.2.1 mt = F_mt := (funext fun j => (hs.a g_mt rfl j).1).trans n_mt
    have gx := gx.S hs
    have gm := gm.S hs
    have g_qa := g_qa.S hs
    have g_qp := g_qp.S hs
    have g_qc := g_qc.S hs
    have g_qh := g_qh.S hs
    have g_qw := g_qw.S hs
    have g_ql := g_ql.S hs
    have g_mw := g_mw.S hs
    have g_mr := g_mr.S hs
    have g_mp := g_mp.S hs
    have g_mn := g_mn.S hs
    have g_ml := g_ml.S hs
    have g_mh := g_mh.S hs
    have g_mt := g_mt.S hs
    refine lv_pop hx hb dL_law_776 rfl ?_
    refine lv_aload_n hx hb dL_law_777 rfl (lv_at hl 1 rfl) ?_
    refine lv_aload_n hx hb dL_law_778 rfl (lv_at hl 3 rfl) ?_
    refine lv_iload_n hx hb dL_law_779 rfl (lv_at hl 0 rfl) ?_
    refine lv_iconst (v := 1) hx hb dL_law_780 (by decide) ?_
    refine lv_iadd hx hb dL_law_781 ?_
    refine lv_topi (fun x_331 ex_331 => ?_)
    have zx_331 : x_331.toInt = i.toInt + 1 := by rw [ex_331]; exact i32_add rfl (by decide) (by omega) (by omega)
    obtain rfl : x_321 = x_331 := ex_321.trans ex_331.symm
    refine va_sld hx hb hX hbl hbA hW.2.2.2.1 (vp_in_iff.mpr ⟨by omega, by omega⟩) dL_law_782 ?_
    refine lv_topi (fun x_332 ex_332 => ?_)
    obtain rfl : x_322 = x_332 := ex_322.trans ex_332.symm
    refine lv_aload_n hx hb dL_law_783 rfl (lv_at hl 3 rfl) ?_
    refine lv_iload_n hx hb dL_law_784 rfl (lv_at hl 0 rfl) ?_
    refine lv_iconst (v := 2) hx hb dL_law_785 (by decide) ?_
    refine lv_iadd hx hb dL_law_786 ?_
    refine lv_topi (fun x_333 ex_333 => ?_)
    have zx_333 : x_333.toInt = i.toInt + 2 := by rw [ex_333]; exact i32_add rfl (by decide) (by omega) (by omega)
    obtain rfl : x_323 = x_333 := ex_323.trans ex_333.symm
    refine va_sld hx hb hX hbl hbA hW.2.2.2.1 (vp_in_iff.mpr ⟨by omega, by omega⟩) dL_law_787 ?_
    refine lv_topi (fun x_334 ex_334 => ?_)
    obtain rfl : x_324 = x_334 := ex_324.trans ex_334.symm
    have jn_796 : ∀ (xj_335 : Int32) (ls : Array Slot), 0 ≤ xj_335.toInt → xj_335.toInt ≤ 1 → lv_has ls 4 [(3, .int i), (2, .ref am), (1, .ref ax), (0, .ref b)] → W p l e room_1 s m #[Value.ref b] below meth c H locs (CC + 0) (SS + 0) (lw_Z below #[Value.ref b] s) (F0 m 796 ls [.int xj_335, .int x_322, .ref am]) := by
      intro xj_335 ls blxj_335 buxj_335 hl
      refine hx_goi (hx_runV (As := [.int x_322, .int xj_335]) (rest := []) ⟨hx, hb, hml, hown, hts⟩ hW gm tt_10 (T := TX10) (N := 98) rfl (t_X10_summons l dC dI dA L_326 h_327 H.size am x_322 xj_335 hT gm mt g_mt f_mt F_mt n_mt T1 hT1 hTR) (cwV 2 hts (hx_gV kw_1593 kw_1590 kw_1591 kw_1592 kw_103) rfl rfl rfl (by decide +kernel) ⟨Nat.le_of_ble_eq_true rfl, Nat.le_of_ble_eq_true rfl⟩) rfl hl.1 rfl (Nat.le_of_ble_eq_true rfl) dL_law_796 ⟨(show CC + 0 + 0 ≤ 600000 from by omega), (show SS + 0 + 0 ≤ 7302250 from by omega)⟩) hW (fun r_338 L_336 h_337 H locs p_339 hW => ?_)
      obtain ⟨⟨w_341, fw_341, hr_340⟩, hT, hs⟩ := p_339
      have hT : hx_T T_tb L_336 h_337 := hT
      have hs : hx_S T_tb [(80, 0), (81, 0)] L_326 h_327 L_336 h_337 := hs
      have f_qa := (hs.o gx trivial rfl).2.trans f_qa
      have f_qp := (hs.o gx trivial rfl).2.trans f_qp
      have f_qc := (hs.o gx trivial rfl).2.trans f_qc
      have f_qh := (hs.o gx trivial rfl).2.trans f_qh
      have f_qw := (hs.o gx trivial rfl).2.trans f_qw
      have f_ql := (hs.o g_qw trivial rfl).2.trans f_ql
      have f_m_now := (hs.o gm trivial rfl).1.trans f_m_now
      have f_m_persons := (hs.o gm trivial rfl).1.trans f_m_persons
      have f_m_acts := (hs.o gm trivial rfl).1.trans f_m_acts
      have f_m_claims := (hs.o gm trivial rfl).1.trans f_m_claims
      have f_m_heardMany := (hs.o gm trivial rfl).1.trans f_m_heardMany
      have f_x_now := (hs.o gx trivial rfl).1.trans f_x_now
      have f_x_personCount := (hs.o gx trivial rfl).1.trans f_x_personCount
      have f_mw := (hs.o gm trivial rfl).2.trans f_mw
      have f_mr := (hs.o gm trivial rfl).2.trans f_mr
      have f_mp := (hs.o gm trivial rfl).2.trans f_mp
      have f_mn := (hs.o gm trivial rfl).2.trans f_mn
      have f_ml := (hs.o gm trivial rfl).2.trans f_ml
      have f_mh := (hs.o gm trivial rfl).2.trans f_mh
      have f_mt := (hs.o gm trivial rfl).2.trans f_mt
      have pf_qa : ∀ j : Nat, (j : Int) < (h_337.2.1 ax 6).toInt → h_337.2.2 qa j ≠ none := by
        intro j hj; rw [(hs.o gx trivial rfl).1] at hj; rw [(hs.a g_qa rfl j).2]; exact pf_qa j hj
      have pf_qp : ∀ j : Nat, (j : Int) < (h_337.2.1 ax 8).toInt → h_337.2.2 qp j ≠ none := by
        intro j hj; rw [(hs.o gx trivial rfl).1] at hj; rw [(hs.a g_qp rfl j).2]; exact pf_qp j hj
      have pf_qc : ∀ j : Nat, (j : Int) < (h_337.2.1 ax 11).toInt → h_337.2.2 qc j ≠ none := by
        intro j hj; rw [(hs.o gx trivial rfl).1] at hj; rw [(hs.a g_qc rfl j).2]; exact pf_qc j hj
      have pf_qh : ∀ j : Nat, (j : Int) < (h_337.2.1 ax 13).toInt → h_337.2.2 qh j ≠ none := by
        intro j hj; rw [(hs.o gx trivial rfl).1] at hj; rw [(hs.a g_qh rfl j).2]; exact pf_qh j hj
      have pf_ql : ∀ j : Nat, (j : Int) < (h_337.2.1 qw 0).toInt → h_337.2.2 ql j ≠ none := by
        intro j hj; rw [(hs.o g_qw trivial rfl).1] at hj; rw [(hs.a g_ql rfl j).2]; exact pf_ql j hj
      have n_mw : h_337.2.1 mw = F_mw := (funext fun j => (hs.a g_mw rfl j).1).trans n_mw
      have n_mr : h_337.2.1 mr = F_mr := (funext fun j => (hs.a g_mr rfl j).1).trans n_mr
      have n_mp : h_337.2.1 mp = F_mp := (funext fun j => (hs.a g_mp rfl j).1).trans n_mp
      have n_mn : h_337.2.1 mn = F_mn := (funext fun j => (hs.a g_mn rfl j).1).trans n_mn
      have n_ml : h_337.2.1 ml = F_ml := (funext fun j => (hs.a g_ml rfl j).1).trans n_ml
      have n_mh : h_337.2.1 mh = F_mh := (funext fun j => (hs.a g_mh rfl j).1).trans n_mh
      have gx := gx.S hs
      have gm := gm.S hs
      have g_qa := g_qa.S hs
      have g_qp := g_qp.S hs
      have g_qc := g_qc.S hs
      have g_qh := g_qh.S hs
      have g_qw := g_qw.S hs
      have g_ql := g_ql.S hs
      have g_mw := g_mw.S hs
      have g_mr := g_mr.S hs
      have g_mp := g_mp.S hs
      have g_mn := g_mn.S hs
      have g_ml := g_ml.S hs
      have g_mh := g_mh.S hs
      have g_mt := g_mt.S hs
      have fw_341 : h_337.2.1 mt = w_341 := fw_341
      refine lv_pop hx hb dL_law_799 rfl ?_
      refine lv_goto (tgt := 1379) hx hb dL_law_800 (by decide) ?_
      refine W.widen (k := CC + 3) (n := SS + 179) (by omega) (by omega) ?_
      exact kk L_336 h_337 H locs ls hW ⟨hT, gx, gm, ⟨f_x_now.trans f_m_now.symm, f_x_personCount.trans f_m_persons.symm, trivial⟩, ⟨hx_ob f_qa pf_qa, hx_ob f_qp pf_qp, hx_ob f_qc pf_qc, hx_ob f_qh pf_qh, (fun w q hw hq => by obtain rfl : qw = w := Option.some.inj (f_qw.symm.trans hw); obtain rfl : ql = q := Option.some.inj (f_ql.symm.trans hq); exact pf_ql)⟩, ⟨hx_ob f_mw (by rw [n_mw]; exact hwd), hx_ob f_mr (by rw [n_mr, f_m_acts]; exact hWK), hx_ob2 f_mp f_mn (by rw [n_mp, n_mn, f_m_acts]; exact hRP), hx_ob f_ml (by rw [n_ml, f_m_claims, f_m_acts]; exact hPL), hx_ob f_mh (by rw [n_mh, f_m_heardMany, f_m_claims]; exact hHC), hx_ob f_mt (by rw [fw_341]; exact hr_340)⟩⟩ hl
    refine hb_if_eq (zx := x_324.toInt) (tgt := 795) hx hb rfl dL_law_788 (by decide) (fun c_342 => ?_) (fun c_342 => ?_)
    · skip
      refine lv_iconst (v := 0) hx hb dL_law_795 (by decide) ?_
      exact jn_796 (0 : Int32) ls (by decide) (by decide) hl
    · skip
      refine lv_iconst (v := 1) hx hb dL_law_791 (by decide) ?_
      refine lv_goto (tgt := 796) hx hb dL_law_792 (by decide) ?_
      exact jn_796 (1 : Int32) ls (by decide) (by decide) hl
  refine hb_if_eq (zx := x_324.toInt) (tgt := 772) hx hb rfl dL_law_765 (by decide) (fun c_343 => ?_) (fun c_343 => ?_)
  · skip
    refine lv_iconst (v := 0) hx hb dL_law_772 (by decide) ?_
    exact jn_773 (0 : Int32) ls (by decide) (by decide) hl
  · skip
    refine lv_iconst (v := 1) hx hb dL_law_768 (by decide) ?_
    refine lv_goto (tgt := 773) hx hb dL_law_769 (by decide) ?_
    exact jn_773 (1 : Int32) ls (by decide) (by decide) hl

set_option maxHeartbeats 4000000 in
set_option maxRecDepth 100000 in
theorem law_case_13 {p : Program} {e : Env} {s : State} {m : MethodId} {below : List Frame} {meth : Method} {c : Code} (l : Launch) {b LN : Nat} {xs : Nat → Int32} (hx : p.tables.exec = Jvm.exec) (hb : c.code = code) (hr : meth.sig.returnType = ret) (hlocks : meth.locks = false) (hml : c.maxLocals = 4) (hown : s.vm.findClass "SmallCourtLaw" = some m.cls) (hts : ∀ w ∈ hx_all, w.before #[Value.ref b] s = true) (hX : va_X b LN xs s s.heap) (hbl : b < s.heap.size) (hbA : ¬ s.heap.size ≤ b) (hLN : LN ≤ 3584) (dC : Nat → ClassId) (dI : Nat → Nat → Nat) (dA : Nat → ClassId) (b0 : hx_z) (ax am : Nat) (T1 : Int) (hT0 : 0 ≤ T1) (hT1 : T1 ≤ 511) (i : Int32) (hi0 : 0 ≤ i.toInt) (hiL : i.toInt + 7 ≤ LN) (CC SS : Nat) (hCC : CC + 3 ≤ 600000) (hSS : SS + 179 ≤ 7302250) (L1 : List Nat) (hl1 : hx_h) (H : Heap) (locs : List Loc) (ls : Array Slot) (hW : hx_W T_tb (P_ty dA) (dC, dI) vwCl (fun q : Nat => s.heap.size ≤ q) s.heap L1 hl1 s H locs) (hZ : hx_Xt (fun q : Nat => s.heap.size ≤ q) b0 s) (hI : hx_IV T1 ax am L1 hl1) (hl : lv_has ls 4 [(3, .int i), (2, .ref am), (1, .ref ax), (0, .ref b)]) (kk : ∀ (L2 : List Nat) (h2 : hx_h) (H2 : Heap) (locs2 : List Loc) (ls2 : Array Slot), hx_W T_tb (P_ty dA) (dC, dI) vwCl (fun q : Nat => s.heap.size ≤ q) s.heap L2 h2 s H2 locs2 → hx_IV (T1 + 1) ax am L2 h2 → lv_has ls2 4 [(3, .int i), (2, .ref am), (1, .ref ax), (0, .ref b)] → W p l e room_1 s m #[Value.ref b] below meth c H2 locs2 (CC + 3) (SS + 179) (lw_Z below #[Value.ref b] s) (F0 m 1379 ls2 [])) : W p l e room_1 s m #[Value.ref b] below meth c H locs CC SS (lw_Z below #[Value.ref b] s) (F0 m 803 ls []) := by
  obtain ⟨hT, gx, gm, ⟨he_nw, he_np, -⟩, ⟨ia, ip, ic, ih, il⟩, ⟨jw, jr, jp, jl, jh, jt⟩⟩ := hI
  obtain ⟨qa, f_qa, g_qa⟩ := hx_rf hT gx tt_9 (k := 5) (u := 43) rfl
  have pf_qa := ia qa f_qa
  obtain ⟨qp, f_qp, g_qp⟩ := hx_rf hT gx tt_9 (k := 7) (u := 44) rfl
  have pf_qp := ip qp f_qp
  obtain ⟨qc, f_qc, g_qc⟩ := hx_rf hT gx tt_9 (k := 10) (u := 45) rfl
  have pf_qc := ic qc f_qc
  obtain ⟨qh, f_qh, g_qh⟩ := hx_rf hT gx tt_9 (k := 12) (u := 46) rfl
  have pf_qh := ih qh f_qh
  obtain ⟨qw, f_qw, g_qw⟩ := hx_rf hT gx tt_9 (k := 19) (u := 8) rfl
  obtain ⟨ql, f_ql, g_ql⟩ := hx_rf hT g_qw tt_8 (k := 3) (u := 40) rfl
  have pf_ql := il qw ql f_qw f_ql
  obtain ⟨nw, f_m_now⟩ : ∃ y : Int32, hl1.2.1 am 0 = y := ⟨_, rfl⟩
  have b_nw := hT.gi gm tt_10 (k := 0) rfl
  rw [f_m_now] at b_nw
  have b_nw : 0 ≤ nw.toInt ∧ nw.toInt ≤ 7999 := b_nw
  obtain ⟨np, f_m_persons⟩ : ∃ y : Int32, hl1.2.1 am 20 = y := ⟨_, rfl⟩
  have b_np := hT.gi gm tt_10 (k := 20) rfl
  rw [f_m_persons] at b_np
  have b_np : 0 ≤ np.toInt ∧ np.toInt ≤ 40 := b_np
  obtain ⟨a0, f_m_acts⟩ : ∃ y : Int32, hl1.2.1 am 1 = y := ⟨_, rfl⟩
  have b_a0 := hT.gi gm tt_10 (k := 1) rfl
  rw [f_m_acts] at b_a0
  have b_a0 : 0 ≤ a0.toInt ∧ a0.toInt ≤ 8 := b_a0
  obtain ⟨c0, f_m_claims⟩ : ∃ y : Int32, hl1.2.1 am 36 = y := ⟨_, rfl⟩
  have b_c0 := hT.gi gm tt_10 (k := 36) rfl
  rw [f_m_claims] at b_c0
  have b_c0 : 0 ≤ c0.toInt ∧ c0.toInt ≤ 100 := b_c0
  obtain ⟨m0, f_m_heardMany⟩ : ∃ y : Int32, hl1.2.1 am 57 = y := ⟨_, rfl⟩
  have b_m0 := hT.gi gm tt_10 (k := 57) rfl
  rw [f_m_heardMany] at b_m0
  have b_m0 : 0 ≤ m0.toInt ∧ m0.toInt ≤ 100 := b_m0
  have f_x_now : hl1.2.1 ax 2 = nw := he_nw.trans f_m_now
  have f_x_personCount : hl1.2.1 ax 8 = np := he_np.trans f_m_persons
  obtain ⟨mw, f_mw, g_mw⟩ := hx_rf hT gm tt_10 (k := 19) (u := 57) rfl
  obtain ⟨F_mw, n_mw⟩ : ∃ g : Nat → Int32, hl1.2.1 mw = g := ⟨_, rfl⟩
  obtain ⟨mr, f_mr, g_mr⟩ := hx_rf hT gm tt_10 (k := 3) (u := 50) rfl
  obtain ⟨F_mr, n_mr⟩ : ∃ g : Nat → Int32, hl1.2.1 mr = g := ⟨_, rfl⟩
  obtain ⟨mp, f_mp, g_mp⟩ := hx_rf hT gm tt_10 (k := 5) (u := 52) rfl
  obtain ⟨F_mp, n_mp⟩ : ∃ g : Nat → Int32, hl1.2.1 mp = g := ⟨_, rfl⟩
  obtain ⟨mn, f_mn, g_mn⟩ := hx_rf hT gm tt_10 (k := 4) (u := 51) rfl
  obtain ⟨F_mn, n_mn⟩ : ∃ g : Nat → Int32, hl1.2.1 mn = g := ⟨_, rfl⟩
  obtain ⟨ml, f_ml, g_ml⟩ := hx_rf hT gm tt_10 (k := 44) (u := 79) rfl
  obtain ⟨F_ml, n_ml⟩ : ∃ g : Nat → Int32, hl1.2.1 ml = g := ⟨_, rfl⟩
  obtain ⟨mh, f_mh, g_mh⟩ := hx_rf hT gm tt_10 (k := 47) (u := 82) rfl
  obtain ⟨F_mh, n_mh⟩ : ∃ g : Nat → Int32, hl1.2.1 mh = g := ⟨_, rfl⟩
  obtain ⟨mt, f_mt, g_mt⟩ := hx_rf hT gm tt_10 (k := 45) (u := 80) rfl
  obtain ⟨F_mt, n_mt⟩ : ∃ g : Nat → Int32, hl1.2.1 mt = g := ⟨_, rfl⟩
  have hwd := jw mw f_mw; rw [n_mw] at hwd
  have hWK := jr mr f_mr; rw [n_mr, f_m_acts] at hWK
  have hRP := jp mp mn f_mp f_mn; rw [n_mp, n_mn, f_m_acts] at hRP
  have hPL := jl ml f_ml; rw [n_ml, f_m_claims, f_m_acts] at hPL
  have hHC := jh mh f_mh; rw [n_mh, f_m_heardMany, f_m_claims] at hHC
  have hTR := jt mt f_mt; rw [n_mt] at hTR
  refine lv_aload_n hx hb dL_law_803 rfl (lv_at hl 2 rfl) ?_
  refine lv_aload_n hx hb dL_law_804 rfl (lv_at hl 3 rfl) ?_
  refine lv_iload_n hx hb dL_law_805 rfl (lv_at hl 0 rfl) ?_
  refine lv_iconst (v := 1) hx hb dL_law_806 (by decide) ?_
  refine lv_iadd hx hb dL_law_807 ?_
  have rg_344 := i32_r i
  refine lv_topi (fun x_345 ex_345 => ?_)
  have zx_345 : x_345.toInt = i.toInt + 1 := by rw [ex_345]; exact i32_add rfl (by decide) (by omega) (by omega)
  refine va_sld hx hb hX hbl hbA hW.2.2.2.1 (vp_in_iff.mpr ⟨by omega, by omega⟩) dL_law_808 ?_
  refine lv_topi (fun x_346 ex_346 => ?_)
  refine lv_aload_n hx hb dL_law_809 rfl (lv_at hl 3 rfl) ?_
  refine lv_iload_n hx hb dL_law_810 rfl (lv_at hl 0 rfl) ?_
  refine lv_iconst (v := 2) hx hb dL_law_811 (by decide) ?_
  refine lv_iadd hx hb dL_law_812 ?_
  refine lv_topi (fun x_347 ex_347 => ?_)
  have zx_347 : x_347.toInt = i.toInt + 2 := by rw [ex_347]; exact i32_add rfl (by decide) (by omega) (by omega)
  refine va_sld hx hb hX hbl hbA hW.2.2.2.1 (vp_in_iff.mpr ⟨by omega, by omega⟩) dL_law_813 ?_
  refine lv_topi (fun x_348 ex_348 => ?_)
  have jn_822 : ∀ (xj_349 : Int32) (ls : Array Slot), 0 ≤ xj_349.toInt → xj_349.toInt ≤ 1 → lv_has ls 4 [(3, .int i), (2, .ref am), (1, .ref ax), (0, .ref b)] → W p l e room_1 s m #[Value.ref b] below meth c H locs (CC) (SS) (lw_Z below #[Value.ref b] s) (F0 m 822 ls [.int xj_349, .int x_346, .ref ax]) := by
    intro xj_349 ls blxj_349 buxj_349 hl
    refine lv_aload_n hx hb dL_law_822 rfl (lv_at hl 3 rfl) ?_
    refine lv_iload_n hx hb dL_law_823 rfl (lv_at hl 0 rfl) ?_
    refine lv_iconst (v := 3) hx hb dL_law_824 (by decide) ?_
    refine lv_iadd hx hb dL_law_825 ?_
    refine lv_topi (fun x_350 ex_350 => ?_)
    have zx_350 : x_350.toInt = i.toInt + 3 := by rw [ex_350]; exact i32_add rfl (by decide) (by omega) (by omega)
    refine va_sld hx hb hX hbl hbA hW.2.2.2.1 (vp_in_iff.mpr ⟨by omega, by omega⟩) dL_law_826 ?_
    refine lv_topi (fun x_351 ex_351 => ?_)
    have jn_835 : ∀ (xj_352 : Int32) (ls : Array Slot), 0 ≤ xj_352.toInt → xj_352.toInt ≤ 1 → lv_has ls 4 [(3, .int i), (2, .ref am), (1, .ref ax), (0, .ref b)] → W p l e room_1 s m #[Value.ref b] below meth c H locs (CC) (SS) (lw_Z below #[Value.ref b] s) (F0 m 835 ls [.int xj_352, .int xj_349, .int x_346, .ref ax]) := by
      intro xj_352 ls blxj_352 buxj_352 hl
      refine lv_aload_n hx hb dL_law_835 rfl (lv_at hl 3 rfl) ?_
      refine lv_iload_n hx hb dL_law_836 rfl (lv_at hl 0 rfl) ?_
      refine lv_iconst (v := 4) hx hb dL_law_837 (by decide) ?_
      refine lv_iadd hx hb dL_law_838 ?_
      refine lv_topi (fun x_353 ex_353 => ?_)
      have zx_353 : x_353.toInt = i.toInt + 4 := by rw [ex_353]; exact i32_add rfl (by decide) (by omega) (by omega)
      refine va_sld hx hb hX hbl hbA hW.2.2.2.1 (vp_in_iff.mpr ⟨by omega, by omega⟩) dL_law_839 ?_
      refine lv_topi (fun x_354 ex_354 => ?_)
      refine hx_goi (hx_runV (As := [.int x_346, .int xj_349, .int xj_352, .int x_354]) (rest := []) ⟨hx, hb, hml, hown, hts⟩ hW gx tt_9 (T := TX9) (N := 20) rfl (t_X9_hear l dC dI dA L1 hl1 H.size ax x_346 xj_349 xj_352 x_354 hT gx qp g_qp f_qp qc g_qc f_qc qh g_qh f_qh pf_qp pf_qc pf_qh) (cwV 4 hts (hx_gV kw_814 kw_811 kw_812 kw_813 kw_94) rfl rfl rfl (by decide +kernel) ⟨Nat.le_of_ble_eq_true rfl, Nat.le_of_ble_eq_true rfl⟩) rfl hl.1 rfl (Nat.le_of_ble_eq_true rfl) dL_law_840 ⟨(show CC + 0 ≤ 600000 from by omega), (show SS + 0 ≤ 7302250 from by omega)⟩) hW (fun r_357 L_355 h_356 H locs p_358 hW => ?_)
      obtain ⟨hr_359, hT, hs, pf_360⟩ := p_358
      have hT : hx_T T_tb L_355 h_356 := hT
      have hs : hx_S T_tb [(2, 11), (2, 12), (9, 13), (19, 0), (20, 0), (21, 0), (46, 0), (47, 0)] L1 hl1 L_355 h_356 := hs
      have f_qa := (hs.o gx trivial rfl).2.trans f_qa
      have f_qp := (hs.o gx trivial rfl).2.trans f_qp
      have f_qc := (hs.o gx trivial rfl).2.trans f_qc
      have f_qh := (hs.o gx trivial rfl).2.trans f_qh
      have f_qw := (hs.o gx trivial rfl).2.trans f_qw
      have f_ql := (hs.o g_qw trivial rfl).2.trans f_ql
      have f_m_now := (hs.o gm trivial rfl).1.trans f_m_now
      have f_m_persons := (hs.o gm trivial rfl).1.trans f_m_persons
      have f_m_acts := (hs.o gm trivial rfl).1.trans f_m_acts
      have f_m_claims := (hs.o gm trivial rfl).1.trans f_m_claims
      have f_m_heardMany := (hs.o gm trivial rfl).1.trans f_m_heardMany
      have f_x_now := (hs.o gx trivial rfl).1.trans f_x_now
      have f_x_personCount := (hs.o gx trivial rfl).1.trans f_x_personCount
      have f_mw := (hs.o gm trivial rfl).2.trans f_mw
      have f_mr := (hs.o gm trivial rfl).2.trans f_mr
      have f_mp := (hs.o gm trivial rfl).2.trans f_mp
      have f_mn := (hs.o gm trivial rfl).2.trans f_mn
      have f_ml := (hs.o gm trivial rfl).2.trans f_ml
      have f_mh := (hs.o gm trivial rfl).2.trans f_mh
      have f_mt := (hs.o gm trivial rfl).2.trans f_mt
      have pf_qa : ∀ j : Nat, (j : Int) < (h_356.2.1 ax 6).toInt → h_356.2.2 qa j ≠ none := by
        intro j hj; rw [(hs.o gx trivial rfl).1] at hj; rw [(hs.a g_qa rfl j).2]; exact pf_qa j hj
      have pf_qp : ∀ j : Nat, (j : Int) < (h_356.2.1 ax 8).toInt → h_356.2.2 qp j ≠ none := by
        intro j hj; rw [(hs.o gx trivial rfl).1] at hj; rw [(hs.a g_qp rfl j).2]; exact pf_qp j hj
      have pf_qc : ∀ j : Nat, (j : Int) < (h_356.2.1 ax 11).toInt → h_356.2.2 qc j ≠ none := by
        intro j hj; rw [(hs.o gx trivial rfl).1] at hj; rw [(hs.a g_qc rfl j).2]; exact pf_qc j hj
      have pf_ql : ∀ j : Nat, (j : Int) < (h_356.2.1 qw 0).toInt → h_356.2.2 ql j ≠ none := by
        intro j hj; rw [(hs.o g_qw trivial rfl).1] at hj; rw [(hs.a g_ql rfl j).2]; exact pf_ql j hj
      have n_mw : h_356.2.1 mw = F_mw := (funext fun j => (hs.a g_mw rfl j).1).trans n_mw
      have n_mr : h_356.2.1 mr = F_mr := (funext fun j => (hs.a g_mr rfl j).1).trans n_mr
      have n_mp : h_356.2.1 mp = F_mp := (funext fun j => (hs.a g_mp rfl j).1).trans n_mp
      have n_mn : h_356.2.1 mn = F_mn := (funext fun j => (hs.a g_mn rfl j).1).trans n_mn
      have n_ml : h_356.2.1 ml = F_ml := (funext fun j => (hs.a g_ml rfl j).1).trans n_ml
      have n_mh : h_356.2.1 mh = F_mh := (funext fun j => (hs.a g_mh rfl j).1).trans n_mh
      have n_mt : h_356.2.1 mt = F_mt := (funext fun j => (hs.a g_mt rfl j).1).trans n_mt
      have gx := gx.S hs
      have gm := gm.S hs
      have g_qa := g_qa.S hs
      have g_qp := g_qp.S hs
      have g_qc := g_qc.S hs
      have g_qh := g_qh.S hs
      have g_qw := g_qw.S hs
      have g_ql := g_ql.S hs
      have g_mw := g_mw.S hs
      have g_mr := g_mr.S hs
      have g_mp := g_mp.S hs
      have g_mn := g_mn.S hs
      have g_ml := g_ml.S hs
      have g_mh := g_mh.S hs
      have g_mt := g_mt.S hs
      have pf_360 : ∀ j : Nat, (j : Int) < (h_356.2.1 ax 13).toInt → h_356.2.2 qh j ≠ none := pf_360
      refine lv_pop hx hb dL_law_843 rfl ?_
      refine lv_aload_n hx hb dL_law_844 rfl (lv_at hl 1 rfl) ?_
      refine lv_aload_n hx hb dL_law_845 rfl (lv_at hl 3 rfl) ?_
      refine lv_iload_n hx hb dL_law_846 rfl (lv_at hl 0 rfl) ?_
      refine lv_iconst (v := 1) hx hb dL_law_847 (by decide) ?_
      refine lv_iadd hx hb dL_law_848 ?_
      refine lv_topi (fun x_361 ex_361 => ?_)
      have zx_361 : x_361.toInt = i.toInt + 1 := by rw [ex_361]; exact i32_add rfl (by decide) (by omega) (by omega)
      obtain rfl : x_345 = x_361 := ex_345.trans ex_361.symm
      refine va_sld hx hb hX hbl hbA hW.2.2.2.1 (vp_in_iff.mpr ⟨by omega, by omega⟩) dL_law_849 ?_
      refine lv_topi (fun x_362 ex_362 => ?_)
      obtain rfl : x_346 = x_362 := ex_346.trans ex_362.symm
      refine lv_aload_n hx hb dL_law_850 rfl (lv_at hl 3 rfl) ?_
      refine lv_iload_n hx hb dL_law_851 rfl (lv_at hl 0 rfl) ?_
      refine lv_iconst (v := 2) hx hb dL_law_852 (by decide) ?_
      refine lv_iadd hx hb dL_law_853 ?_
      refine lv_topi (fun x_363 ex_363 => ?_)
      have zx_363 : x_363.toInt = i.toInt + 2 := by rw [ex_363]; exact i32_add rfl (by decide) (by omega) (by omega)
      obtain rfl : x_347 = x_363 := ex_347.trans ex_363.symm
      refine va_sld hx hb hX hbl hbA hW.2.2.2.1 (vp_in_iff.mpr ⟨by omega, by omega⟩) dL_law_854 ?_
      refine lv_topi (fun x_364 ex_364 => ?_)
      obtain rfl : x_348 = x_364 := ex_348.trans ex_364.symm
      have jn_863 : ∀ (xj_365 : Int32) (ls : Array Slot), 0 ≤ xj_365.toInt → xj_365.toInt ≤ 1 → lv_has ls 4 [(3, .int i), (2, .ref am), (1, .ref ax), (0, .ref b)] → W p l e room_1 s m #[Value.ref b] below meth c H locs (CC + 0) (SS + 0) (lw_Z below #[Value.ref b] s) (F0 m 863 ls [.int xj_365, .int x_346, .ref am]) := by
        intro xj_365 ls blxj_365 buxj_365 hl
        refine lv_aload_n hx hb dL_law_863 rfl (lv_at hl 3 rfl) ?_
        refine lv_iload_n hx hb dL_law_864 rfl (lv_at hl 0 rfl) ?_
        refine lv_iconst (v := 3) hx hb dL_law_865 (by decide) ?_
        refine lv_iadd hx hb dL_law_866 ?_
        refine lv_topi (fun x_366 ex_366 => ?_)
        have zx_366 : x_366.toInt = i.toInt + 3 := by rw [ex_366]; exact i32_add rfl (by decide) (by omega) (by omega)
        obtain rfl : x_350 = x_366 := ex_350.trans ex_366.symm
        refine va_sld hx hb hX hbl hbA hW.2.2.2.1 (vp_in_iff.mpr ⟨by omega, by omega⟩) dL_law_867 ?_
        refine lv_topi (fun x_367 ex_367 => ?_)
        obtain rfl : x_351 = x_367 := ex_351.trans ex_367.symm
        have jn_876 : ∀ (xj_368 : Int32) (ls : Array Slot), 0 ≤ xj_368.toInt → xj_368.toInt ≤ 1 → lv_has ls 4 [(3, .int i), (2, .ref am), (1, .ref ax), (0, .ref b)] → W p l e room_1 s m #[Value.ref b] below meth c H locs (CC + 0) (SS + 0) (lw_Z below #[Value.ref b] s) (F0 m 876 ls [.int xj_368, .int xj_365, .int x_346, .ref am]) := by
          intro xj_368 ls blxj_368 buxj_368 hl
          refine lv_aload_n hx hb dL_law_876 rfl (lv_at hl 3 rfl) ?_
          refine lv_iload_n hx hb dL_law_877 rfl (lv_at hl 0 rfl) ?_
          refine lv_iconst (v := 4) hx hb dL_law_878 (by decide) ?_
          refine lv_iadd hx hb dL_law_879 ?_
          refine lv_topi (fun x_369 ex_369 => ?_)
          have zx_369 : x_369.toInt = i.toInt + 4 := by rw [ex_369]; exact i32_add rfl (by decide) (by omega) (by omega)
          obtain rfl : x_353 = x_369 := ex_353.trans ex_369.symm
          refine va_sld hx hb hX hbl hbA hW.2.2.2.1 (vp_in_iff.mpr ⟨by omega, by omega⟩) dL_law_880 ?_
          refine lv_topi (fun x_370 ex_370 => ?_)
          obtain rfl : x_354 = x_370 := ex_354.trans ex_370.symm
          refine hx_goi (hx_runV (As := [.int x_346, .int xj_365, .int xj_368, .int x_354]) (rest := []) ⟨hx, hb, hml, hown, hts⟩ hW gm tt_10 (T := TX10) (N := 98) rfl (t_X10_hear l dC dI dA L_355 h_356 H.size am x_346 xj_365 xj_368 x_354 hT gm mn g_mn f_mn mp g_mp f_mp mh g_mh f_mh ml g_ml f_ml F_mn n_mn F_mp n_mp F_mh n_mh F_ml n_ml a0 f_m_acts c0 f_m_claims m0 f_m_heardMany hRP hPL hHC) (cwV 4 hts (hx_gV kw_1601 kw_1598 kw_1599 kw_1600 kw_103) rfl rfl rfl (by decide +kernel) ⟨Nat.le_of_ble_eq_true rfl, Nat.le_of_ble_eq_true rfl⟩) rfl hl.1 rfl (Nat.le_of_ble_eq_true rfl) dL_law_881 ⟨(show CC + 0 + 0 ≤ 600000 from by omega), (show SS + 0 + 0 ≤ 7302250 from by omega)⟩) hW (fun r_373 L_371 h_372 H locs p_374 hW => ?_)
          obtain ⟨⟨w_376, w_377, fw_376, fw_377, hr_375⟩, hT, hs⟩ := p_374
          have hT : hx_T T_tb L_371 h_372 := hT
          have hs : hx_S T_tb [(10, 57), (71, 0), (82, 0), (86, 0), (87, 0), (88, 0), (92, 0), (98, 0), (99, 0)] L_355 h_356 L_371 h_372 := hs
          have f_qa := (hs.o gx trivial rfl).2.trans f_qa
          have f_qp := (hs.o gx trivial rfl).2.trans f_qp
          have f_qc := (hs.o gx trivial rfl).2.trans f_qc
          have f_qh := (hs.o gx trivial rfl).2.trans f_qh
          have f_qw := (hs.o gx trivial rfl).2.trans f_qw
          have f_ql := (hs.o g_qw trivial rfl).2.trans f_ql
          have f_m_now := (hs.o gm trivial rfl).1.trans f_m_now
          have f_m_persons := (hs.o gm trivial rfl).1.trans f_m_persons
          have f_m_acts := (hs.o gm trivial rfl).1.trans f_m_acts
          have f_m_claims := (hs.o gm trivial rfl).1.trans f_m_claims
          have f_x_now := (hs.o gx trivial rfl).1.trans f_x_now
          have f_x_personCount := (hs.o gx trivial rfl).1.trans f_x_personCount
          have f_mw := (hs.o gm trivial rfl).2.trans f_mw
          have f_mr := (hs.o gm trivial rfl).2.trans f_mr
          have f_mp := (hs.o gm trivial rfl).2.trans f_mp
          have f_mn := (hs.o gm trivial rfl).2.trans f_mn
          have f_ml := (hs.o gm trivial rfl).2.trans f_ml
          have f_mh := (hs.o gm trivial rfl).2.trans f_mh
          have f_mt := (hs.o gm trivial rfl).2.trans f_mt
          have pf_qa : ∀ j : Nat, (j : Int) < (h_372.2.1 ax 6).toInt → h_372.2.2 qa j ≠ none := by
            intro j hj; rw [(hs.o gx trivial rfl).1] at hj; rw [(hs.a g_qa rfl j).2]; exact pf_qa j hj
          have pf_qp : ∀ j : Nat, (j : Int) < (h_372.2.1 ax 8).toInt → h_372.2.2 qp j ≠ none := by
            intro j hj; rw [(hs.o gx trivial rfl).1] at hj; rw [(hs.a g_qp rfl j).2]; exact pf_qp j hj
          have pf_qc : ∀ j : Nat, (j : Int) < (h_372.2.1 ax 11).toInt → h_372.2.2 qc j ≠ none := by
            intro j hj; rw [(hs.o gx trivial rfl).1] at hj; rw [(hs.a g_qc rfl j).2]; exact pf_qc j hj
          have pf_ql : ∀ j : Nat, (j : Int) < (h_372.2.1 qw 0).toInt → h_372.2.2 ql j ≠ none := by
            intro j hj; rw [(hs.o g_qw trivial rfl).1] at hj; rw [(hs.a g_ql rfl j).2]; exact pf_ql j hj
          have pf_360 : ∀ j : Nat, (j : Int) < (h_372.2.1 ax 13).toInt → h_372.2.2 qh j ≠ none := by
            intro j hj; rw [(hs.o gx trivial rfl).1] at hj; rw [(hs.a g_qh rfl j).2]; exact pf_360 j hj
          have n_mw : h_372.2.1 mw = F_mw := (funext fun j => (hs.a g_mw rfl j).1).trans n_mw
          have n_mr : h_372.2.1 mr = F_mr := (funext fun j => (hs.a g_mr rfl j).1).trans n_mr
          have n_mp : h_372.2.1 mp = F_mp := (funext fun j => (hs.a g_mp rfl j).1).trans n_mp
          have n_mn : h_372.2.1 mn = F_mn := (funext fun j => (hs.a g_mn rfl j).1).trans n_mn
          have n_ml : h_372.2.1 ml = F_ml := (funext fun j => (hs.a g_ml rfl j).1).trans n_ml
          have n_mt : h_372.2.1 mt = F_mt := (funext fun j => (hs.a g_mt rfl j).1).trans n_mt
          have gx := gx.S hs
          have gm := gm.S hs
          have g_qa := g_qa.S hs
          have g_qp := g_qp.S hs
          have g_qc := g_qc.S hs
          have g_qh := g_qh.S hs
          have g_qw := g_qw.S hs
          have g_ql := g_ql.S hs
          have g_mw := g_mw.S hs
          have g_mr := g_mr.S hs
          have g_mp := g_mp.S hs
          have g_mn := g_mn.S hs
          have g_ml := g_ml.S hs
          have g_mh := g_mh.S hs
          have g_mt := g_mt.S hs
          have fw_376 : h_372.2.1 am 57 = w_376 := fw_376
          have bw_376 := hT.gi gm tt_10 (k := 57) rfl
          rw [fw_376] at bw_376
          have bw_376 : 0 ≤ w_376.toInt ∧ w_376.toInt ≤ 100 := bw_376
          have fw_377 : h_372.2.1 mh = w_377 := fw_377
          refine lv_pop hx hb dL_law_884 rfl ?_
          refine lv_goto (tgt := 1379) hx hb dL_law_885 (by decide) ?_
          refine W.widen (k := CC + 3) (n := SS + 179) (by omega) (by omega) ?_
          exact kk L_371 h_372 H locs ls hW ⟨hT, gx, gm, ⟨f_x_now.trans f_m_now.symm, f_x_personCount.trans f_m_persons.symm, trivial⟩, ⟨hx_ob f_qa pf_qa, hx_ob f_qp pf_qp, hx_ob f_qc pf_qc, hx_ob f_qh pf_360, (fun w q hw hq => by obtain rfl : qw = w := Option.some.inj (f_qw.symm.trans hw); obtain rfl : ql = q := Option.some.inj (f_ql.symm.trans hq); exact pf_ql)⟩, ⟨hx_ob f_mw (by rw [n_mw]; exact hwd), hx_ob f_mr (by rw [n_mr, f_m_acts]; exact hWK), hx_ob2 f_mp f_mn (by rw [n_mp, n_mn, f_m_acts]; exact hRP), hx_ob f_ml (by rw [n_ml, f_m_claims, f_m_acts]; exact hPL), hx_ob f_mh (by rw [fw_377, fw_376, f_m_claims]; exact hr_375), hx_ob f_mt (by rw [n_mt]; exact (hx_TR_le hTR (by omega)))⟩⟩ hl
        refine hb_if_eq (zx := x_351.toInt) (tgt := 875) hx hb rfl dL_law_868 (by decide) (fun c_378 => ?_) (fun c_378 => ?_)
        · skip
          refine lv_iconst (v := 0) hx hb dL_law_875 (by decide) ?_
          exact jn_876 (0 : Int32) ls (by decide) (by decide) hl
        · skip
          refine lv_iconst (v := 1) hx hb dL_law_871 (by decide) ?_
          refine lv_goto (tgt := 876) hx hb dL_law_872 (by decide) ?_
          exact jn_876 (1 : Int32) ls (by decide) (by decide) hl
      refine hb_if_eq (zx := x_348.toInt) (tgt := 862) hx hb rfl dL_law_855 (by decide) (fun c_379 => ?_) (fun c_379 => ?_)
      · skip
        refine lv_iconst (v := 0) hx hb dL_law_862 (by decide) ?_
        exact jn_863 (0 : Int32) ls (by decide) (by decide) hl
      · skip
        refine lv_iconst (v := 1) hx hb dL_law_858 (by decide) ?_
        refine lv_goto (tgt := 863) hx hb dL_law_859 (by decide) ?_
        exact jn_863 (1 : Int32) ls (by decide) (by decide) hl
    refine hb_if_eq (zx := x_351.toInt) (tgt := 834) hx hb rfl dL_law_827 (by decide) (fun c_380 => ?_) (fun c_380 => ?_)
    · skip
      refine lv_iconst (v := 0) hx hb dL_law_834 (by decide) ?_
      exact jn_835 (0 : Int32) ls (by decide) (by decide) hl
    · skip
      refine lv_iconst (v := 1) hx hb dL_law_830 (by decide) ?_
      refine lv_goto (tgt := 835) hx hb dL_law_831 (by decide) ?_
      exact jn_835 (1 : Int32) ls (by decide) (by decide) hl
  refine hb_if_eq (zx := x_348.toInt) (tgt := 821) hx hb rfl dL_law_814 (by decide) (fun c_381 => ?_) (fun c_381 => ?_)
  · skip
    refine lv_iconst (v := 0) hx hb dL_law_821 (by decide) ?_
    exact jn_822 (0 : Int32) ls (by decide) (by decide) hl
  · skip
    refine lv_iconst (v := 1) hx hb dL_law_817 (by decide) ?_
    refine lv_goto (tgt := 822) hx hb dL_law_818 (by decide) ?_
    exact jn_822 (1 : Int32) ls (by decide) (by decide) hl

set_option maxHeartbeats 4000000 in
set_option maxRecDepth 100000 in
theorem law_case_14 {p : Program} {e : Env} {s : State} {m : MethodId} {below : List Frame} {meth : Method} {c : Code} (l : Launch) {b LN : Nat} {xs : Nat → Int32} (hx : p.tables.exec = Jvm.exec) (hb : c.code = code) (hr : meth.sig.returnType = ret) (hlocks : meth.locks = false) (hml : c.maxLocals = 4) (hown : s.vm.findClass "SmallCourtLaw" = some m.cls) (hts : ∀ w ∈ hx_all, w.before #[Value.ref b] s = true) (hX : va_X b LN xs s s.heap) (hbl : b < s.heap.size) (hbA : ¬ s.heap.size ≤ b) (hLN : LN ≤ 3584) (dC : Nat → ClassId) (dI : Nat → Nat → Nat) (dA : Nat → ClassId) (b0 : hx_z) (ax am : Nat) (T1 : Int) (hT0 : 0 ≤ T1) (hT1 : T1 ≤ 511) (i : Int32) (hi0 : 0 ≤ i.toInt) (hiL : i.toInt + 7 ≤ LN) (CC SS : Nat) (hCC : CC + 3 ≤ 600000) (hSS : SS + 179 ≤ 7302250) (L1 : List Nat) (hl1 : hx_h) (H : Heap) (locs : List Loc) (ls : Array Slot) (hW : hx_W T_tb (P_ty dA) (dC, dI) vwCl (fun q : Nat => s.heap.size ≤ q) s.heap L1 hl1 s H locs) (hZ : hx_Xt (fun q : Nat => s.heap.size ≤ q) b0 s) (hI : hx_IV T1 ax am L1 hl1) (hl : lv_has ls 4 [(3, .int i), (2, .ref am), (1, .ref ax), (0, .ref b)]) (kk : ∀ (L2 : List Nat) (h2 : hx_h) (H2 : Heap) (locs2 : List Loc) (ls2 : Array Slot), hx_W T_tb (P_ty dA) (dC, dI) vwCl (fun q : Nat => s.heap.size ≤ q) s.heap L2 h2 s H2 locs2 → hx_IV (T1 + 1) ax am L2 h2 → lv_has ls2 4 [(3, .int i), (2, .ref am), (1, .ref ax), (0, .ref b)] → W p l e room_1 s m #[Value.ref b] below meth c H2 locs2 (CC + 3) (SS + 179) (lw_Z below #[Value.ref b] s) (F0 m 1379 ls2 [])) : W p l e room_1 s m #[Value.ref b] below meth c H locs CC SS (lw_Z below #[Value.ref b] s) (F0 m 888 ls []) := by
  obtain ⟨hT, gx, gm, ⟨he_nw, he_np, -⟩, ⟨ia, ip, ic, ih, il⟩, ⟨jw, jr, jp, jl, jh, jt⟩⟩ := hI
  obtain ⟨qa, f_qa, g_qa⟩ := hx_rf hT gx tt_9 (k := 5) (u := 43) rfl
  have pf_qa := ia qa f_qa
  obtain ⟨qp, f_qp, g_qp⟩ := hx_rf hT gx tt_9 (k := 7) (u := 44) rfl
  have pf_qp := ip qp f_qp
  obtain ⟨qc, f_qc, g_qc⟩ := hx_rf hT gx tt_9 (k := 10) (u := 45) rfl
  have pf_qc := ic qc f_qc
  obtain ⟨qh, f_qh, g_qh⟩ := hx_rf hT gx tt_9 (k := 12) (u := 46) rfl
  have pf_qh := ih qh f_qh
  obtain ⟨qw, f_qw, g_qw⟩ := hx_rf hT gx tt_9 (k := 19) (u := 8) rfl
  obtain ⟨ql, f_ql, g_ql⟩ := hx_rf hT g_qw tt_8 (k := 3) (u := 40) rfl
  have pf_ql := il qw ql f_qw f_ql
  obtain ⟨nw, f_m_now⟩ : ∃ y : Int32, hl1.2.1 am 0 = y := ⟨_, rfl⟩
  have b_nw := hT.gi gm tt_10 (k := 0) rfl
  rw [f_m_now] at b_nw
  have b_nw : 0 ≤ nw.toInt ∧ nw.toInt ≤ 7999 := b_nw
  obtain ⟨np, f_m_persons⟩ : ∃ y : Int32, hl1.2.1 am 20 = y := ⟨_, rfl⟩
  have b_np := hT.gi gm tt_10 (k := 20) rfl
  rw [f_m_persons] at b_np
  have b_np : 0 ≤ np.toInt ∧ np.toInt ≤ 40 := b_np
  obtain ⟨a0, f_m_acts⟩ : ∃ y : Int32, hl1.2.1 am 1 = y := ⟨_, rfl⟩
  have b_a0 := hT.gi gm tt_10 (k := 1) rfl
  rw [f_m_acts] at b_a0
  have b_a0 : 0 ≤ a0.toInt ∧ a0.toInt ≤ 8 := b_a0
  obtain ⟨c0, f_m_claims⟩ : ∃ y : Int32, hl1.2.1 am 36 = y := ⟨_, rfl⟩
  have b_c0 := hT.gi gm tt_10 (k := 36) rfl
  rw [f_m_claims] at b_c0
  have b_c0 : 0 ≤ c0.toInt ∧ c0.toInt ≤ 100 := b_c0
  obtain ⟨m0, f_m_heardMany⟩ : ∃ y : Int32, hl1.2.1 am 57 = y := ⟨_, rfl⟩
  have b_m0 := hT.gi gm tt_10 (k := 57) rfl
  rw [f_m_heardMany] at b_m0
  have b_m0 : 0 ≤ m0.toInt ∧ m0.toInt ≤ 100 := b_m0
  have f_x_now : hl1.2.1 ax 2 = nw := he_nw.trans f_m_now
  have f_x_personCount : hl1.2.1 ax 8 = np := he_np.trans f_m_persons
  obtain ⟨mw, f_mw, g_mw⟩ := hx_rf hT gm tt_10 (k := 19) (u := 57) rfl
  obtain ⟨F_mw, n_mw⟩ : ∃ g : Nat → Int32, hl1.2.1 mw = g := ⟨_, rfl⟩
  obtain ⟨mr, f_mr, g_mr⟩ := hx_rf hT gm tt_10 (k := 3) (u := 50) rfl
  obtain ⟨F_mr, n_mr⟩ : ∃ g : Nat → Int32, hl1.2.1 mr = g := ⟨_, rfl⟩
  obtain ⟨mp, f_mp, g_mp⟩ := hx_rf hT gm tt_10 (k := 5) (u := 52) rfl
  obtain ⟨F_mp, n_mp⟩ : ∃ g : Nat → Int32, hl1.2.1 mp = g := ⟨_, rfl⟩
  obtain ⟨mn, f_mn, g_mn⟩ := hx_rf hT gm tt_10 (k := 4) (u := 51) rfl
  obtain ⟨F_mn, n_mn⟩ : ∃ g : Nat → Int32, hl1.2.1 mn = g := ⟨_, rfl⟩
  obtain ⟨ml, f_ml, g_ml⟩ := hx_rf hT gm tt_10 (k := 44) (u := 79) rfl
  obtain ⟨F_ml, n_ml⟩ : ∃ g : Nat → Int32, hl1.2.1 ml = g := ⟨_, rfl⟩
  obtain ⟨mh, f_mh, g_mh⟩ := hx_rf hT gm tt_10 (k := 47) (u := 82) rfl
  obtain ⟨F_mh, n_mh⟩ : ∃ g : Nat → Int32, hl1.2.1 mh = g := ⟨_, rfl⟩
  obtain ⟨mt, f_mt, g_mt⟩ := hx_rf hT gm tt_10 (k := 45) (u := 80) rfl
  obtain ⟨F_mt, n_mt⟩ : ∃ g : Nat → Int32, hl1.2.1 mt = g := ⟨_, rfl⟩
  have hwd := jw mw f_mw; rw [n_mw] at hwd
  have hWK := jr mr f_mr; rw [n_mr, f_m_acts] at hWK
  have hRP := jp mp mn f_mp f_mn; rw [n_mp, n_mn, f_m_acts] at hRP
  have hPL := jl ml f_ml; rw [n_ml, f_m_claims, f_m_acts] at hPL
  have hHC := jh mh f_mh; rw [n_mh, f_m_heardMany, f_m_claims] at hHC
  have hTR := jt mt f_mt; rw [n_mt] at hTR
  refine lv_aload_n hx hb dL_law_888 rfl (lv_at hl 2 rfl) ?_
  refine lv_aload_n hx hb dL_law_889 rfl (lv_at hl 3 rfl) ?_
  refine lv_iload_n hx hb dL_law_890 rfl (lv_at hl 0 rfl) ?_
  refine lv_iconst (v := 1) hx hb dL_law_891 (by decide) ?_
  refine lv_iadd hx hb dL_law_892 ?_
  have rg_382 := i32_r i
  refine lv_topi (fun x_383 ex_383 => ?_)
  have zx_383 : x_383.toInt = i.toInt + 1 := by rw [ex_383]; exact i32_add rfl (by decide) (by omega) (by omega)
  refine va_sld hx hb hX hbl hbA hW.2.2.2.1 (vp_in_iff.mpr ⟨by omega, by omega⟩) dL_law_893 ?_
  refine lv_topi (fun x_384 ex_384 => ?_)
  refine lv_aload_n hx hb dL_law_894 rfl (lv_at hl 3 rfl) ?_
  refine lv_iload_n hx hb dL_law_895 rfl (lv_at hl 0 rfl) ?_
  refine lv_iconst (v := 2) hx hb dL_law_896 (by decide) ?_
  refine lv_iadd hx hb dL_law_897 ?_
  refine lv_topi (fun x_385 ex_385 => ?_)
  have zx_385 : x_385.toInt = i.toInt + 2 := by rw [ex_385]; exact i32_add rfl (by decide) (by omega) (by omega)
  refine va_sld hx hb hX hbl hbA hW.2.2.2.1 (vp_in_iff.mpr ⟨by omega, by omega⟩) dL_law_898 ?_
  refine lv_topi (fun x_386 ex_386 => ?_)
  refine hx_goi (hx_runV (As := [.int x_384, .int x_386]) (rest := []) ⟨hx, hb, hml, hown, hts⟩ hW gx tt_9 (T := TX9) (N := 20) rfl (t_X9_order l dC dI dA L1 hl1 H.size ax x_384 x_386 hT gx qc g_qc f_qc pf_qc) (cwV 2 hts (hx_gV kw_845 kw_842 kw_843 kw_844 kw_94) rfl rfl rfl (by decide +kernel) ⟨Nat.le_of_ble_eq_true rfl, Nat.le_of_ble_eq_true rfl⟩) rfl hl.1 rfl (Nat.le_of_ble_eq_true rfl) dL_law_899 ⟨(show CC + 0 ≤ 600000 from by omega), (show SS + 0 ≤ 7302250 from by omega)⟩) hW (fun r_389 L_387 h_388 H locs p_390 hW => ?_)
  obtain ⟨hr_391, hT, hs⟩ := p_390
  have hT : hx_T T_tb L_387 h_388 := hT
  have hs : hx_S T_tb [(2, 13), (2, 14), (2, 15)] L1 hl1 L_387 h_388 := hs
  have f_qa := (hs.o gx trivial rfl).2.trans f_qa
  have f_qp := (hs.o gx trivial rfl).2.trans f_qp
  have f_qc := (hs.o gx trivial rfl).2.trans f_qc
  have f_qh := (hs.o gx trivial rfl).2.trans f_qh
  have f_qw := (hs.o gx trivial rfl).2.trans f_qw
  have f_ql := (hs.o g_qw trivial rfl).2.trans f_ql
  have f_m_now := (hs.o gm trivial rfl).1.trans f_m_now
  have f_m_persons := (hs.o gm trivial rfl).1.trans f_m_persons
  have f_m_acts := (hs.o gm trivial rfl).1.trans f_m_acts
  have f_m_claims := (hs.o gm trivial rfl).1.trans f_m_claims
  have f_m_heardMany := (hs.o gm trivial rfl).1.trans f_m_heardMany
  have f_x_now := (hs.o gx trivial rfl).1.trans f_x_now
  have f_x_personCount := (hs.o gx trivial rfl).1.trans f_x_personCount
  have f_mw := (hs.o gm trivial rfl).2.trans f_mw
  have f_mr := (hs.o gm trivial rfl).2.trans f_mr
  have f_mp := (hs.o gm trivial rfl).2.trans f_mp
  have f_mn := (hs.o gm trivial rfl).2.trans f_mn
  have f_ml := (hs.o gm trivial rfl).2.trans f_ml
  have f_mh := (hs.o gm trivial rfl).2.trans f_mh
  have f_mt := (hs.o gm trivial rfl).2.trans f_mt
  have pf_qa : ∀ j : Nat, (j : Int) < (h_388.2.1 ax 6).toInt → h_388.2.2 qa j ≠ none := by
    intro j hj; rw [(hs.o gx trivial rfl).1] at hj; rw [(hs.a g_qa rfl j).2]; exact pf_qa j hj
  have pf_qp : ∀ j : Nat, (j : Int) < (h_388.2.1 ax 8).toInt → h_388.2.2 qp j ≠ none := by
    intro j hj; rw [(hs.o gx trivial rfl).1] at hj; rw [(hs.a g_qp rfl j).2]; exact pf_qp j hj
  have pf_qc : ∀ j : Nat, (j : Int) < (h_388.2.1 ax 11).toInt → h_388.2.2 qc j ≠ none := by
    intro j hj; rw [(hs.o gx trivial rfl).1] at hj; rw [(hs.a g_qc rfl j).2]; exact pf_qc j hj
  have pf_qh : ∀ j : Nat, (j : Int) < (h_388.2.1 ax 13).toInt → h_388.2.2 qh j ≠ none := by
    intro j hj; rw [(hs.o gx trivial rfl).1] at hj; rw [(hs.a g_qh rfl j).2]; exact pf_qh j hj
  have pf_ql : ∀ j : Nat, (j : Int) < (h_388.2.1 qw 0).toInt → h_388.2.2 ql j ≠ none := by
    intro j hj; rw [(hs.o g_qw trivial rfl).1] at hj; rw [(hs.a g_ql rfl j).2]; exact pf_ql j hj
  have n_mw : h_388.2.1 mw = F_mw := (funext fun j => (hs.a g_mw rfl j).1).trans n_mw
  have n_mr : h_388.2.1 mr = F_mr := (funext fun j => (hs.a g_mr rfl j).1).trans n_mr
  have n_mp : h_388.2.1 mp = F_mp := (funext fun j => (hs.a g_mp rfl j).1).trans n_mp
  have n_mn : h_388.2.1 mn = F_mn := (funext fun j => (hs.a g_mn rfl j).1).trans n_mn
  have n_ml : h_388.2.1 ml = F_ml := (funext fun j => (hs.a g_ml rfl j).1).trans n_ml
  have n_mh : h_388.2.1 mh = F_mh := (funext fun j => (hs.a g_mh rfl j).1).trans n_mh
  have n_mt : h_388.2.1 mt = F_mt := (funext fun j => (hs.a g_mt rfl j).1).trans n_mt
  have gx := gx.S hs
  have gm := gm.S hs
  have g_qa := g_qa.S hs
  have g_qp := g_qp.S hs
  have g_qc := g_qc.S hs
  have g_qh := g_qh.S hs
  have g_qw := g_qw.S hs
  have g_ql := g_ql.S hs
  have g_mw := g_mw.S hs
  have g_mr := g_mr.S hs
  have g_mp := g_mp.S hs
  have g_mn := g_mn.S hs
  have g_ml := g_ml.S hs
  have g_mh := g_mh.S hs
  have g_mt := g_mt.S hs
  refine lv_pop hx hb dL_law_902 rfl ?_
  refine lv_aload_n hx hb dL_law_903 rfl (lv_at hl 1 rfl) ?_
  refine lv_aload_n hx hb dL_law_904 rfl (lv_at hl 3 rfl) ?_
  refine lv_iload_n hx hb dL_law_905 rfl (lv_at hl 0 rfl) ?_
  refine lv_iconst (v := 1) hx hb dL_law_906 (by decide) ?_
  refine lv_iadd hx hb dL_law_907 ?_
  refine lv_topi (fun x_392 ex_392 => ?_)
  have zx_392 : x_392.toInt = i.toInt + 1 := by rw [ex_392]; exact i32_add rfl (by decide) (by omega) (by omega)
  obtain rfl : x_383 = x_392 := ex_383.trans ex_392.symm
  refine va_sld hx hb hX hbl hbA hW.2.2.2.1 (vp_in_iff.mpr ⟨by omega, by omega⟩) dL_law_908 ?_
  refine lv_topi (fun x_393 ex_393 => ?_)
  obtain rfl : x_384 = x_393 := ex_384.trans ex_393.symm
  refine lv_aload_n hx hb dL_law_909 rfl (lv_at hl 3 rfl) ?_
  refine lv_iload_n hx hb dL_law_910 rfl (lv_at hl 0 rfl) ?_
  refine lv_iconst (v := 2) hx hb dL_law_911 (by decide) ?_
  refine lv_iadd hx hb dL_law_912 ?_
  refine lv_topi (fun x_394 ex_394 => ?_)
  have zx_394 : x_394.toInt = i.toInt + 2 := by rw [ex_394]; exact i32_add rfl (by decide) (by omega) (by omega)
  obtain rfl : x_385 = x_394 := ex_385.trans ex_394.symm
  refine va_sld hx hb hX hbl hbA hW.2.2.2.1 (vp_in_iff.mpr ⟨by omega, by omega⟩) dL_law_913 ?_
  refine lv_topi (fun x_395 ex_395 => ?_)
  obtain rfl : x_386 = x_395 := ex_386.trans ex_395.symm
  refine hx_goi (hx_runV (As := [.int x_384, .int x_386]) (rest := []) ⟨hx, hb, hml, hown, hts⟩ hW gm tt_10 (T := TX10) (N := 98) rfl (t_X10_order l dC dI dA L_387 h_388 H.size am x_384 x_386 hT gm mr g_mr f_mr ml g_ml f_ml F_mr n_mr F_ml n_ml a0 f_m_acts c0 f_m_claims hWK hPL) (cwV 2 hts (hx_gV kw_1633 kw_1630 kw_1631 kw_1632 kw_103) rfl rfl rfl (by decide +kernel) ⟨Nat.le_of_ble_eq_true rfl, Nat.le_of_ble_eq_true rfl⟩) rfl hl.1 rfl (Nat.le_of_ble_eq_true rfl) dL_law_914 ⟨(show CC + 0 + 0 ≤ 600000 from by omega), (show SS + 0 + 0 ≤ 7302250 from by omega)⟩) hW (fun r_398 L_396 h_397 H locs p_399 hW => ?_)
  obtain ⟨hr_400, hT, hs⟩ := p_399
  have hT : hx_T T_tb L_396 h_397 := hT
  have hs : hx_S T_tb [(10, 67), (10, 68), (10, 69), (10, 70), (10, 71), (83, 0), (89, 0), (90, 0)] L_387 h_388 L_396 h_397 := hs
  have f_qa := (hs.o gx trivial rfl).2.trans f_qa
  have f_qp := (hs.o gx trivial rfl).2.trans f_qp
  have f_qc := (hs.o gx trivial rfl).2.trans f_qc
  have f_qh := (hs.o gx trivial rfl).2.trans f_qh
  have f_qw := (hs.o gx trivial rfl).2.trans f_qw
  have f_ql := (hs.o g_qw trivial rfl).2.trans f_ql
  have f_m_now := (hs.o gm trivial rfl).1.trans f_m_now
  have f_m_persons := (hs.o gm trivial rfl).1.trans f_m_persons
  have f_m_acts := (hs.o gm trivial rfl).1.trans f_m_acts
  have f_m_claims := (hs.o gm trivial rfl).1.trans f_m_claims
  have f_m_heardMany := (hs.o gm trivial rfl).1.trans f_m_heardMany
  have f_x_now := (hs.o gx trivial rfl).1.trans f_x_now
  have f_x_personCount := (hs.o gx trivial rfl).1.trans f_x_personCount
  have f_mw := (hs.o gm trivial rfl).2.trans f_mw
  have f_mr := (hs.o gm trivial rfl).2.trans f_mr
  have f_mp := (hs.o gm trivial rfl).2.trans f_mp
  have f_mn := (hs.o gm trivial rfl).2.trans f_mn
  have f_ml := (hs.o gm trivial rfl).2.trans f_ml
  have f_mh := (hs.o gm trivial rfl).2.trans f_mh
  have f_mt := (hs.o gm trivial rfl).2.trans f_mt
  have pf_qa : ∀ j : Nat, (j : Int) < (h_397.2.1 ax 6).toInt → h_397.2.2 qa j ≠ none := by
    intro j hj; rw [(hs.o gx trivial rfl).1] at hj; rw [(hs.a g_qa rfl j).2]; exact pf_qa j hj
  have pf_qp : ∀ j : Nat, (j : Int) < (h_397.2.1 ax 8).toInt → h_397.2.2 qp j ≠ none := by
    intro j hj; rw [(hs.o gx trivial rfl).1] at hj; rw [(hs.a g_qp rfl j).2]; exact pf_qp j hj
  have pf_qc : ∀ j : Nat, (j : Int) < (h_397.2.1 ax 11).toInt → h_397.2.2 qc j ≠ none := by
    intro j hj; rw [(hs.o gx trivial rfl).1] at hj; rw [(hs.a g_qc rfl j).2]; exact pf_qc j hj
  have pf_qh : ∀ j : Nat, (j : Int) < (h_397.2.1 ax 13).toInt → h_397.2.2 qh j ≠ none := by
    intro j hj; rw [(hs.o gx trivial rfl).1] at hj; rw [(hs.a g_qh rfl j).2]; exact pf_qh j hj
  have pf_ql : ∀ j : Nat, (j : Int) < (h_397.2.1 qw 0).toInt → h_397.2.2 ql j ≠ none := by
    intro j hj; rw [(hs.o g_qw trivial rfl).1] at hj; rw [(hs.a g_ql rfl j).2]; exact pf_ql j hj
  have n_mw : h_397.2.1 mw = F_mw := (funext fun j => (hs.a g_mw rfl j).1).trans n_mw
  have n_mr : h_397.2.1 mr = F_mr := (funext fun j => (hs.a g_mr rfl j).1).trans n_mr
  have n_mp : h_397.2.1 mp = F_mp := (funext fun j => (hs.a g_mp rfl j).1).trans n_mp
  have n_mn : h_397.2.1 mn = F_mn := (funext fun j => (hs.a g_mn rfl j).1).trans n_mn
  have n_ml : h_397.2.1 ml = F_ml := (funext fun j => (hs.a g_ml rfl j).1).trans n_ml
  have n_mh : h_397.2.1 mh = F_mh := (funext fun j => (hs.a g_mh rfl j).1).trans n_mh
  have n_mt : h_397.2.1 mt = F_mt := (funext fun j => (hs.a g_mt rfl j).1).trans n_mt
  have gx := gx.S hs
  have gm := gm.S hs
  have g_qa := g_qa.S hs
  have g_qp := g_qp.S hs
  have g_qc := g_qc.S hs
  have g_qh := g_qh.S hs
  have g_qw := g_qw.S hs
  have g_ql := g_ql.S hs
  have g_mw := g_mw.S hs
  have g_mr := g_mr.S hs
  have g_mp := g_mp.S hs
  have g_mn := g_mn.S hs
  have g_ml := g_ml.S hs
  have g_mh := g_mh.S hs
  have g_mt := g_mt.S hs
  refine lv_pop hx hb dL_law_917 rfl ?_
  refine lv_goto (tgt := 1379) hx hb dL_law_918 (by decide) ?_
  refine W.widen (k := CC + 3) (n := SS + 179) (by omega) (by omega) ?_
  exact kk L_396 h_397 H locs ls hW ⟨hT, gx, gm, ⟨f_x_now.trans f_m_now.symm, f_x_personCount.trans f_m_persons.symm, trivial⟩, ⟨hx_ob f_qa pf_qa, hx_ob f_qp pf_qp, hx_ob f_qc pf_qc, hx_ob f_qh pf_qh, (fun w q hw hq => by obtain rfl : qw = w := Option.some.inj (f_qw.symm.trans hw); obtain rfl : ql = q := Option.some.inj (f_ql.symm.trans hq); exact pf_ql)⟩, ⟨hx_ob f_mw (by rw [n_mw]; exact hwd), hx_ob f_mr (by rw [n_mr, f_m_acts]; exact hWK), hx_ob2 f_mp f_mn (by rw [n_mp, n_mn, f_m_acts]; exact hRP), hx_ob f_ml (by rw [n_ml, f_m_claims, f_m_acts]; exact hPL), hx_ob f_mh (by rw [n_mh, f_m_heardMany, f_m_claims]; exact hHC), hx_ob f_mt (by rw [n_mt]; exact (hx_TR_le hTR (by omega)))⟩⟩ hl

set_option maxHeartbeats 4000000 in
set_option maxRecDepth 100000 in
theorem law_case_15 {p : Program} {e : Env} {s : State} {m : MethodId} {below : List Frame} {meth : Method} {c : Code} (l : Launch) {b LN : Nat} {xs : Nat → Int32} (hx : p.tables.exec = Jvm.exec) (hb : c.code = code) (hr : meth.sig.returnType = ret) (hlocks : meth.locks = false) (hml : c.maxLocals = 4) (hown : s.vm.findClass "SmallCourtLaw" = some m.cls) (hts : ∀ w ∈ hx_all, w.before #[Value.ref b] s = true) (hX : va_X b LN xs s s.heap) (hbl : b < s.heap.size) (hbA : ¬ s.heap.size ≤ b) (hLN : LN ≤ 3584) (dC : Nat → ClassId) (dI : Nat → Nat → Nat) (dA : Nat → ClassId) (b0 : hx_z) (ax am : Nat) (T1 : Int) (hT0 : 0 ≤ T1) (hT1 : T1 ≤ 511) (i : Int32) (hi0 : 0 ≤ i.toInt) (hiL : i.toInt + 7 ≤ LN) (CC SS : Nat) (hCC : CC + 3 ≤ 600000) (hSS : SS + 179 ≤ 7302250) (L1 : List Nat) (hl1 : hx_h) (H : Heap) (locs : List Loc) (ls : Array Slot) (hW : hx_W T_tb (P_ty dA) (dC, dI) vwCl (fun q : Nat => s.heap.size ≤ q) s.heap L1 hl1 s H locs) (hZ : hx_Xt (fun q : Nat => s.heap.size ≤ q) b0 s) (hI : hx_IV T1 ax am L1 hl1) (hl : lv_has ls 4 [(3, .int i), (2, .ref am), (1, .ref ax), (0, .ref b)]) (kk : ∀ (L2 : List Nat) (h2 : hx_h) (H2 : Heap) (locs2 : List Loc) (ls2 : Array Slot), hx_W T_tb (P_ty dA) (dC, dI) vwCl (fun q : Nat => s.heap.size ≤ q) s.heap L2 h2 s H2 locs2 → hx_IV (T1 + 1) ax am L2 h2 → lv_has ls2 4 [(3, .int i), (2, .ref am), (1, .ref ax), (0, .ref b)] → W p l e room_1 s m #[Value.ref b] below meth c H2 locs2 (CC + 3) (SS + 179) (lw_Z below #[Value.ref b] s) (F0 m 1379 ls2 [])) : W p l e room_1 s m #[Value.ref b] below meth c H locs CC SS (lw_Z below #[Value.ref b] s) (F0 m 921 ls []) := by
  obtain ⟨hT, gx, gm, ⟨he_nw, he_np, -⟩, ⟨ia, ip, ic, ih, il⟩, ⟨jw, jr, jp, jl, jh, jt⟩⟩ := hI
  obtain ⟨qa, f_qa, g_qa⟩ := hx_rf hT gx tt_9 (k := 5) (u := 43) rfl
  have pf_qa := ia qa f_qa
  obtain ⟨qp, f_qp, g_qp⟩ := hx_rf hT gx tt_9 (k := 7) (u := 44) rfl
  have pf_qp := ip qp f_qp
  obtain ⟨qc, f_qc, g_qc⟩ := hx_rf hT gx tt_9 (k := 10) (u := 45) rfl
  have pf_qc := ic qc f_qc
  obtain ⟨qh, f_qh, g_qh⟩ := hx_rf hT gx tt_9 (k := 12) (u := 46) rfl
  have pf_qh := ih qh f_qh
  obtain ⟨qw, f_qw, g_qw⟩ := hx_rf hT gx tt_9 (k := 19) (u := 8) rfl
  obtain ⟨ql, f_ql, g_ql⟩ := hx_rf hT g_qw tt_8 (k := 3) (u := 40) rfl
  have pf_ql := il qw ql f_qw f_ql
  obtain ⟨nw, f_m_now⟩ : ∃ y : Int32, hl1.2.1 am 0 = y := ⟨_, rfl⟩
  have b_nw := hT.gi gm tt_10 (k := 0) rfl
  rw [f_m_now] at b_nw
  have b_nw : 0 ≤ nw.toInt ∧ nw.toInt ≤ 7999 := b_nw
  obtain ⟨np, f_m_persons⟩ : ∃ y : Int32, hl1.2.1 am 20 = y := ⟨_, rfl⟩
  have b_np := hT.gi gm tt_10 (k := 20) rfl
  rw [f_m_persons] at b_np
  have b_np : 0 ≤ np.toInt ∧ np.toInt ≤ 40 := b_np
  obtain ⟨a0, f_m_acts⟩ : ∃ y : Int32, hl1.2.1 am 1 = y := ⟨_, rfl⟩
  have b_a0 := hT.gi gm tt_10 (k := 1) rfl
  rw [f_m_acts] at b_a0
  have b_a0 : 0 ≤ a0.toInt ∧ a0.toInt ≤ 8 := b_a0
  obtain ⟨c0, f_m_claims⟩ : ∃ y : Int32, hl1.2.1 am 36 = y := ⟨_, rfl⟩
  have b_c0 := hT.gi gm tt_10 (k := 36) rfl
  rw [f_m_claims] at b_c0
  have b_c0 : 0 ≤ c0.toInt ∧ c0.toInt ≤ 100 := b_c0
  obtain ⟨m0, f_m_heardMany⟩ : ∃ y : Int32, hl1.2.1 am 57 = y := ⟨_, rfl⟩
  have b_m0 := hT.gi gm tt_10 (k := 57) rfl
  rw [f_m_heardMany] at b_m0
  have b_m0 : 0 ≤ m0.toInt ∧ m0.toInt ≤ 100 := b_m0
  have f_x_now : hl1.2.1 ax 2 = nw := he_nw.trans f_m_now
  have f_x_personCount : hl1.2.1 ax 8 = np := he_np.trans f_m_persons
  obtain ⟨mw, f_mw, g_mw⟩ := hx_rf hT gm tt_10 (k := 19) (u := 57) rfl
  obtain ⟨F_mw, n_mw⟩ : ∃ g : Nat → Int32, hl1.2.1 mw = g := ⟨_, rfl⟩
  obtain ⟨mr, f_mr, g_mr⟩ := hx_rf hT gm tt_10 (k := 3) (u := 50) rfl
  obtain ⟨F_mr, n_mr⟩ : ∃ g : Nat → Int32, hl1.2.1 mr = g := ⟨_, rfl⟩
  obtain ⟨mp, f_mp, g_mp⟩ := hx_rf hT gm tt_10 (k := 5) (u := 52) rfl
  obtain ⟨F_mp, n_mp⟩ : ∃ g : Nat → Int32, hl1.2.1 mp = g := ⟨_, rfl⟩
  obtain ⟨mn, f_mn, g_mn⟩ := hx_rf hT gm tt_10 (k := 4) (u := 51) rfl
  obtain ⟨F_mn, n_mn⟩ : ∃ g : Nat → Int32, hl1.2.1 mn = g := ⟨_, rfl⟩
  obtain ⟨ml, f_ml, g_ml⟩ := hx_rf hT gm tt_10 (k := 44) (u := 79) rfl
  obtain ⟨F_ml, n_ml⟩ : ∃ g : Nat → Int32, hl1.2.1 ml = g := ⟨_, rfl⟩
  obtain ⟨mh, f_mh, g_mh⟩ := hx_rf hT gm tt_10 (k := 47) (u := 82) rfl
  obtain ⟨F_mh, n_mh⟩ : ∃ g : Nat → Int32, hl1.2.1 mh = g := ⟨_, rfl⟩
  obtain ⟨mt, f_mt, g_mt⟩ := hx_rf hT gm tt_10 (k := 45) (u := 80) rfl
  obtain ⟨F_mt, n_mt⟩ : ∃ g : Nat → Int32, hl1.2.1 mt = g := ⟨_, rfl⟩
  have hwd := jw mw f_mw; rw [n_mw] at hwd
  have hWK := jr mr f_mr; rw [n_mr, f_m_acts] at hWK
  have hRP := jp mp mn f_mp f_mn; rw [n_mp, n_mn, f_m_acts] at hRP
  have hPL := jl ml f_ml; rw [n_ml, f_m_claims, f_m_acts] at hPL
  have hHC := jh mh f_mh; rw [n_mh, f_m_heardMany, f_m_claims] at hHC
  have hTR := jt mt f_mt; rw [n_mt] at hTR
  refine lv_aload_n hx hb dL_law_921 rfl (lv_at hl 2 rfl) ?_
  refine lv_aload_n hx hb dL_law_922 rfl (lv_at hl 3 rfl) ?_
  refine lv_iload_n hx hb dL_law_923 rfl (lv_at hl 0 rfl) ?_
  refine lv_iconst (v := 1) hx hb dL_law_924 (by decide) ?_
  refine lv_iadd hx hb dL_law_925 ?_
  have rg_401 := i32_r i
  refine lv_topi (fun x_402 ex_402 => ?_)
  have zx_402 : x_402.toInt = i.toInt + 1 := by rw [ex_402]; exact i32_add rfl (by decide) (by omega) (by omega)
  refine va_sld hx hb hX hbl hbA hW.2.2.2.1 (vp_in_iff.mpr ⟨by omega, by omega⟩) dL_law_926 ?_
  refine lv_topi (fun x_403 ex_403 => ?_)
  refine lv_aload_n hx hb dL_law_927 rfl (lv_at hl 3 rfl) ?_
  refine lv_iload_n hx hb dL_law_928 rfl (lv_at hl 0 rfl) ?_
  refine lv_iconst (v := 2) hx hb dL_law_929 (by decide) ?_
  refine lv_iadd hx hb dL_law_930 ?_
  refine lv_topi (fun x_404 ex_404 => ?_)
  have zx_404 : x_404.toInt = i.toInt + 2 := by rw [ex_404]; exact i32_add rfl (by decide) (by omega) (by omega)
  refine va_sld hx hb hX hbl hbA hW.2.2.2.1 (vp_in_iff.mpr ⟨by omega, by omega⟩) dL_law_931 ?_
  refine lv_topi (fun x_405 ex_405 => ?_)
  refine lv_aload_n hx hb dL_law_932 rfl (lv_at hl 3 rfl) ?_
  refine lv_iload_n hx hb dL_law_933 rfl (lv_at hl 0 rfl) ?_
  refine lv_iconst (v := 3) hx hb dL_law_934 (by decide) ?_
  refine lv_iadd hx hb dL_law_935 ?_
  refine lv_topi (fun x_406 ex_406 => ?_)
  have zx_406 : x_406.toInt = i.toInt + 3 := by rw [ex_406]; exact i32_add rfl (by decide) (by omega) (by omega)
  refine va_sld hx hb hX hbl hbA hW.2.2.2.1 (vp_in_iff.mpr ⟨by omega, by omega⟩) dL_law_936 ?_
  refine lv_topi (fun x_407 ex_407 => ?_)
  refine hx_goi (hx_runV (As := [.int x_403, .int x_405, .int x_407]) (rest := []) ⟨hx, hb, hml, hown, hts⟩ hW gx tt_9 (T := TX9) (N := 20) rfl (t_X9_pay l dC dI dA L1 hl1 H.size ax x_403 x_405 x_407 hT gx qc g_qc f_qc pf_qc) (cwV 3 hts (hx_gV kw_891 kw_888 kw_889 kw_890 kw_94) rfl rfl rfl (by decide +kernel) ⟨Nat.le_of_ble_eq_true rfl, Nat.le_of_ble_eq_true rfl⟩) rfl hl.1 rfl (Nat.le_of_ble_eq_true rfl) dL_law_937 ⟨(show CC + 0 ≤ 600000 from by omega), (show SS + 0 ≤ 7302250 from by omega)⟩) hW (fun r_410 L_408 h_409 H locs p_411 hW => ?_)
  obtain ⟨hr_412, hT, hs⟩ := p_411
  have hT : hx_T T_tb L_408 h_409 := hT
  have hs : hx_S T_tb [(3, 0), (22, 0), (23, 0), (24, 0), (25, 0), (26, 0)] L1 hl1 L_408 h_409 := hs
  have f_qa := (hs.o gx trivial rfl).2.trans f_qa
  have f_qp := (hs.o gx trivial rfl).2.trans f_qp
  have f_qc := (hs.o gx trivial rfl).2.trans f_qc
  have f_qh := (hs.o gx trivial rfl).2.trans f_qh
  have f_qw := (hs.o gx trivial rfl).2.trans f_qw
  have f_ql := (hs.o g_qw trivial rfl).2.trans f_ql
  have f_m_now := (hs.o gm trivial rfl).1.trans f_m_now
  have f_m_persons := (hs.o gm trivial rfl).1.trans f_m_persons
  have f_m_acts := (hs.o gm trivial rfl).1.trans f_m_acts
  have f_m_claims := (hs.o gm trivial rfl).1.trans f_m_claims
  have f_m_heardMany := (hs.o gm trivial rfl).1.trans f_m_heardMany
  have f_x_now := (hs.o gx trivial rfl).1.trans f_x_now
  have f_x_personCount := (hs.o gx trivial rfl).1.trans f_x_personCount
  have f_mw := (hs.o gm trivial rfl).2.trans f_mw
  have f_mr := (hs.o gm trivial rfl).2.trans f_mr
  have f_mp := (hs.o gm trivial rfl).2.trans f_mp
  have f_mn := (hs.o gm trivial rfl).2.trans f_mn
  have f_ml := (hs.o gm trivial rfl).2.trans f_ml
  have f_mh := (hs.o gm trivial rfl).2.trans f_mh
  have f_mt := (hs.o gm trivial rfl).2.trans f_mt
  have pf_qa : ∀ j : Nat, (j : Int) < (h_409.2.1 ax 6).toInt → h_409.2.2 qa j ≠ none := by
    intro j hj; rw [(hs.o gx trivial rfl).1] at hj; rw [(hs.a g_qa rfl j).2]; exact pf_qa j hj
  have pf_qp : ∀ j : Nat, (j : Int) < (h_409.2.1 ax 8).toInt → h_409.2.2 qp j ≠ none := by
    intro j hj; rw [(hs.o gx trivial rfl).1] at hj; rw [(hs.a g_qp rfl j).2]; exact pf_qp j hj
  have pf_qc : ∀ j : Nat, (j : Int) < (h_409.2.1 ax 11).toInt → h_409.2.2 qc j ≠ none := by
    intro j hj; rw [(hs.o gx trivial rfl).1] at hj; rw [(hs.a g_qc rfl j).2]; exact pf_qc j hj
  have pf_qh : ∀ j : Nat, (j : Int) < (h_409.2.1 ax 13).toInt → h_409.2.2 qh j ≠ none := by
    intro j hj; rw [(hs.o gx trivial rfl).1] at hj; rw [(hs.a g_qh rfl j).2]; exact pf_qh j hj
  have pf_ql : ∀ j : Nat, (j : Int) < (h_409.2.1 qw 0).toInt → h_409.2.2 ql j ≠ none := by
    intro j hj; rw [(hs.o g_qw trivial rfl).1] at hj; rw [(hs.a g_ql rfl j).2]; exact pf_ql j hj
  have n_mw : h_409.2.1 mw = F_mw := (funext fun j => (hs.a g_mw rfl j).1).trans n_mw
  have n_mr : h_409.2.1 mr = F_mr := (funext fun j => (hs.a g_mr rfl j).1).trans n_mr
  have n_mp : h_409.2.1 mp = F_mp := (funext fun j => (hs.a g_mp rfl j).1).trans n_mp
  have n_mn : h_409.2.1 mn = F_mn := (funext fun j => (hs.a g_mn rfl j).1).trans n_mn
  have n_ml : h_409.2.1 ml = F_ml := (funext fun j => (hs.a g_ml rfl j).1).trans n_ml
  have n_mh : h_409.2.1 mh = F_mh := (funext fun j => (hs.a g_mh rfl j).1).trans n_mh
  have n_mt : h_409.2.1 mt = F_mt := (funext fun j => (hs.a g_mt rfl j).1).trans n_mt
  have gx := gx.S hs
  have gm := gm.S hs
  have g_qa := g_qa.S hs
  have g_qp := g_qp.S hs
  have g_qc := g_qc.S hs
  have g_qh := g_qh.S hs
  have g_qw := g_qw.S hs
  have g_ql := g_ql.S hs
  have g_mw := g_mw.S hs
  have g_mr := g_mr.S hs
  have g_mp := g_mp.S hs
  have g_mn := g_mn.S hs
  have g_ml := g_ml.S hs
  have g_mh := g_mh.S hs
  have g_mt := g_mt.S hs
  refine lv_pop hx hb dL_law_940 rfl ?_
  refine lv_aload_n hx hb dL_law_941 rfl (lv_at hl 1 rfl) ?_
  refine lv_aload_n hx hb dL_law_942 rfl (lv_at hl 3 rfl) ?_
  refine lv_iload_n hx hb dL_law_943 rfl (lv_at hl 0 rfl) ?_
  refine lv_iconst (v := 1) hx hb dL_law_944 (by decide) ?_
  refine lv_iadd hx hb dL_law_945 ?_
  refine lv_topi (fun x_413 ex_413 => ?_)
  have zx_413 : x_413.toInt = i.toInt + 1 := by rw [ex_413]; exact i32_add rfl (by decide) (by omega) (by omega)
  obtain rfl : x_402 = x_413 := ex_402.trans ex_413.symm
  refine va_sld hx hb hX hbl hbA hW.2.2.2.1 (vp_in_iff.mpr ⟨by omega, by omega⟩) dL_law_946 ?_
  refine lv_topi (fun x_414 ex_414 => ?_)
  obtain rfl : x_403 = x_414 := ex_403.trans ex_414.symm
  refine lv_aload_n hx hb dL_law_947 rfl (lv_at hl 3 rfl) ?_
  refine lv_iload_n hx hb dL_law_948 rfl (lv_at hl 0 rfl) ?_
  refine lv_iconst (v := 2) hx hb dL_law_949 (by decide) ?_
  refine lv_iadd hx hb dL_law_950 ?_
  refine lv_topi (fun x_415 ex_415 => ?_)
  have zx_415 : x_415.toInt = i.toInt + 2 := by rw [ex_415]; exact i32_add rfl (by decide) (by omega) (by omega)
  obtain rfl : x_404 = x_415 := ex_404.trans ex_415.symm
  refine va_sld hx hb hX hbl hbA hW.2.2.2.1 (vp_in_iff.mpr ⟨by omega, by omega⟩) dL_law_951 ?_
  refine lv_topi (fun x_416 ex_416 => ?_)
  obtain rfl : x_405 = x_416 := ex_405.trans ex_416.symm
  refine lv_aload_n hx hb dL_law_952 rfl (lv_at hl 3 rfl) ?_
  refine lv_iload_n hx hb dL_law_953 rfl (lv_at hl 0 rfl) ?_
  refine lv_iconst (v := 3) hx hb dL_law_954 (by decide) ?_
  refine lv_iadd hx hb dL_law_955 ?_
  refine lv_topi (fun x_417 ex_417 => ?_)
  have zx_417 : x_417.toInt = i.toInt + 3 := by rw [ex_417]; exact i32_add rfl (by decide) (by omega) (by omega)
  obtain rfl : x_406 = x_417 := ex_406.trans ex_417.symm
  refine va_sld hx hb hX hbl hbA hW.2.2.2.1 (vp_in_iff.mpr ⟨by omega, by omega⟩) dL_law_956 ?_
  refine lv_topi (fun x_418 ex_418 => ?_)
  obtain rfl : x_407 = x_418 := ex_407.trans ex_418.symm
  refine hx_goi (hx_runV (As := [.int x_403, .int x_405, .int x_407]) (rest := []) ⟨hx, hb, hml, hown, hts⟩ hW gm tt_10 (T := TX10) (N := 98) rfl (t_X10_pay l dC dI dA L_408 h_409 H.size am x_403 x_405 x_407 hT gm) (cwV 3 hts (hx_gV kw_1649 kw_1646 kw_1647 kw_1648 kw_103) rfl rfl rfl (by decide +kernel) ⟨Nat.le_of_ble_eq_true rfl, Nat.le_of_ble_eq_true rfl⟩) rfl hl.1 rfl (Nat.le_of_ble_eq_true rfl) dL_law_957 ⟨(show CC + 0 + 0 ≤ 600000 from by omega), (show SS + 0 + 0 ≤ 7302250 from by omega)⟩) hW (fun r_421 L_419 h_420 H locs p_422 hW => ?_)
  obtain ⟨hr_423, hT, hs⟩ := p_422
  have hT : hx_T T_tb L_419 h_420 := hT
  have hs : hx_S T_tb [(10, 59), (93, 0), (94, 0), (95, 0), (96, 0), (97, 0)] L_408 h_409 L_419 h_420 := hs
  have f_qa := (hs.o gx trivial rfl).2.trans f_qa
  have f_qp := (hs.o gx trivial rfl).2.trans f_qp
  have f_qc := (hs.o gx trivial rfl).2.trans f_qc
  have f_qh := (hs.o gx trivial rfl).2.trans f_qh
  have f_qw := (hs.o gx trivial rfl).2.trans f_qw
  have f_ql := (hs.o g_qw trivial rfl).2.trans f_ql
  have f_m_now := (hs.o gm trivial rfl).1.trans f_m_now
  have f_m_persons := (hs.o gm trivial rfl).1.trans f_m_persons
  have f_m_acts := (hs.o gm trivial rfl).1.trans f_m_acts
  have f_m_claims := (hs.o gm trivial rfl).1.trans f_m_claims
  have f_m_heardMany := (hs.o gm trivial rfl).1.trans f_m_heardMany
  have f_x_now := (hs.o gx trivial rfl).1.trans f_x_now
  have f_x_personCount := (hs.o gx trivial rfl).1.trans f_x_personCount
  have f_mw := (hs.o gm trivial rfl).2.trans f_mw
  have f_mr := (hs.o gm trivial rfl).2.trans f_mr
  have f_mp := (hs.o gm trivial rfl).2.trans f_mp
  have f_mn := (hs.o gm trivial rfl).2.trans f_mn
  have f_ml := (hs.o gm trivial rfl).2.trans f_ml
  have f_mh := (hs.o gm trivial rfl).2.trans f_mh
  have f_mt := (hs.o gm trivial rfl).2.trans f_mt
  have pf_qa : ∀ j : Nat, (j : Int) < (h_420.2.1 ax 6).toInt → h_420.2.2 qa j ≠ none := by
    intro j hj; rw [(hs.o gx trivial rfl).1] at hj; rw [(hs.a g_qa rfl j).2]; exact pf_qa j hj
  have pf_qp : ∀ j : Nat, (j : Int) < (h_420.2.1 ax 8).toInt → h_420.2.2 qp j ≠ none := by
    intro j hj; rw [(hs.o gx trivial rfl).1] at hj; rw [(hs.a g_qp rfl j).2]; exact pf_qp j hj
  have pf_qc : ∀ j : Nat, (j : Int) < (h_420.2.1 ax 11).toInt → h_420.2.2 qc j ≠ none := by
    intro j hj; rw [(hs.o gx trivial rfl).1] at hj; rw [(hs.a g_qc rfl j).2]; exact pf_qc j hj
  have pf_qh : ∀ j : Nat, (j : Int) < (h_420.2.1 ax 13).toInt → h_420.2.2 qh j ≠ none := by
    intro j hj; rw [(hs.o gx trivial rfl).1] at hj; rw [(hs.a g_qh rfl j).2]; exact pf_qh j hj
  have pf_ql : ∀ j : Nat, (j : Int) < (h_420.2.1 qw 0).toInt → h_420.2.2 ql j ≠ none := by
    intro j hj; rw [(hs.o g_qw trivial rfl).1] at hj; rw [(hs.a g_ql rfl j).2]; exact pf_ql j hj
  have n_mw : h_420.2.1 mw = F_mw := (funext fun j => (hs.a g_mw rfl j).1).trans n_mw
  have n_mr : h_420.2.1 mr = F_mr := (funext fun j => (hs.a g_mr rfl j).1).trans n_mr
  have n_mp : h_420.2.1 mp = F_mp := (funext fun j => (hs.a g_mp rfl j).1).trans n_mp
  have n_mn : h_420.2.1 mn = F_mn := (funext fun j => (hs.a g_mn rfl j).1).trans n_mn
  have n_ml : h_420.2.1 ml = F_ml := (funext fun j => (hs.a g_ml rfl j).1).trans n_ml
  have n_mh : h_420.2.1 mh = F_mh := (funext fun j => (hs.a g_mh rfl j).1).trans n_mh
  have n_mt : h_420.2.1 mt = F_mt := (funext fun j => (hs.a g_mt rfl j).1).trans n_mt
  have gx := gx.S hs
  have gm := gm.S hs
  have g_qa := g_qa.S hs
  have g_qp := g_qp.S hs
  have g_qc := g_qc.S hs
  have g_qh := g_qh.S hs
  have g_qw := g_qw.S hs
  have g_ql := g_ql.S hs
  have g_mw := g_mw.S hs
  have g_mr := g_mr.S hs
  have g_mp := g_mp.S hs
  have g_mn := g_mn.S hs
  have g_ml := g_ml.S hs
  have g_mh := g_mh.S hs
  have g_mt := g_mt.S hs
  refine lv_pop hx hb dL_law_960 rfl ?_
  refine lv_goto (tgt := 1379) hx hb dL_law_961 (by decide) ?_
  refine W.widen (k := CC + 3) (n := SS + 179) (by omega) (by omega) ?_
  exact kk L_419 h_420 H locs ls hW ⟨hT, gx, gm, ⟨f_x_now.trans f_m_now.symm, f_x_personCount.trans f_m_persons.symm, trivial⟩, ⟨hx_ob f_qa pf_qa, hx_ob f_qp pf_qp, hx_ob f_qc pf_qc, hx_ob f_qh pf_qh, (fun w q hw hq => by obtain rfl : qw = w := Option.some.inj (f_qw.symm.trans hw); obtain rfl : ql = q := Option.some.inj (f_ql.symm.trans hq); exact pf_ql)⟩, ⟨hx_ob f_mw (by rw [n_mw]; exact hwd), hx_ob f_mr (by rw [n_mr, f_m_acts]; exact hWK), hx_ob2 f_mp f_mn (by rw [n_mp, n_mn, f_m_acts]; exact hRP), hx_ob f_ml (by rw [n_ml, f_m_claims, f_m_acts]; exact hPL), hx_ob f_mh (by rw [n_mh, f_m_heardMany, f_m_claims]; exact hHC), hx_ob f_mt (by rw [n_mt]; exact (hx_TR_le hTR (by omega)))⟩⟩ hl
