set_option maxHeartbeats 4000000 in
set_option maxRecDepth 100000 in
theorem law_case_24 {p : Program} {e : Env} {s : State} {m : MethodId} {below : List Frame} {meth : Method} {c : Code} (l : Launch) {b LN : Nat} {xs : Nat → Int32} (hx : p.tables.exec = Jvm.exec) (hb : c.code = code) (hr : meth.sig.returnType = ret) (hlocks : meth.locks = false) (hml : c.maxLocals = 4) (hown : s.vm.findClass "SmallCourtLaw" = some m.cls) (hts : ∀ w ∈ hx_all, w.before #[Value.ref b] s = true) (hX : va_X b LN xs s s.heap) (hbl : b < s.heap.size) (hbA : ¬ s.heap.size ≤ b) (hLN : LN ≤ 3584) (dC : Nat → ClassId) (dI : Nat → Nat → Nat) (dA : Nat → ClassId) (b0 : hx_z) (ax am : Nat) (T1 : Int) (hT0 : 0 ≤ T1) (hT1 : T1 ≤ 511) (i : Int32) (hi0 : 0 ≤ i.toInt) (hiL : i.toInt + 7 ≤ LN) (CC SS : Nat) (hCC : CC + 3 ≤ 600000) (hSS : SS + 179 ≤ 7302250) (L1 : List Nat) (hl1 : hx_h) (H : Heap) (locs : List Loc) (ls : Array Slot) (hW : hx_W T_tb (P_ty dA) (dC, dI) vwCl (fun q : Nat => s.heap.size ≤ q) s.heap L1 hl1 s H locs) (hZ : hx_Xt (fun q : Nat => s.heap.size ≤ q) b0 s) (hI : hx_IV T1 ax am L1 hl1) (hl : lv_has ls 4 [(3, .int i), (2, .ref am), (1, .ref ax), (0, .ref b)]) (kk : ∀ (L2 : List Nat) (h2 : hx_h) (H2 : Heap) (locs2 : List Loc) (ls2 : Array Slot), hx_W T_tb (P_ty dA) (dC, dI) vwCl (fun q : Nat => s.heap.size ≤ q) s.heap L2 h2 s H2 locs2 → hx_IV (T1 + 1) ax am L2 h2 → lv_has ls2 4 [(3, .int i), (2, .ref am), (1, .ref ax), (0, .ref b)] → W p l e room_1 s m #[Value.ref b] below meth c H2 locs2 (CC + 3) (SS + 179) (lw_Z below #[Value.ref b] s) (F0 m 1379 ls2 [])) : W p l e room_1 s m #[Value.ref b] below meth c H locs CC SS (lw_Z below #[Value.ref b] s) (F0 m 1208 ls []) := by
  obtain ⟨hT, gx, gm, ⟨he_nw, he_np, -⟩, ⟨ia, ip, ic, ih, il⟩, ⟨jw, jr, jp, jl, jh, jt⟩⟩ := hI
  obtain ⟨qa, f_qa, g_qa⟩ := hx_rf hT gx tt_9 (k := 5) (u := 43) rfl
  have pf_qa := ia qa f_qa
  obtain ⟨qp, f_qp, g_qp⟩ := hx_rf hT gx tt_9 (k := 7) (u := 44) rfl
  have pf_qp := ip qp f_qp
  obtain ⟨qc, f_qc, g_qc⟩ := hx_rf hT gx tt_9 (k := 10) (u := 45) rfl
  have pf_qc := ic qc f_qc
  obtain ⟨qh, f_qh, g_qh⟩ := hx_rf hT gx tt_9 (k := 12) (u := 46) rfl
  have pf_qh := ih qh f_qh
  obtain ⟨qw, f_qw, g_qw⟩ := hx_rf hT gx tt_9 (k := 19) (u := 8) rfl
  obtain ⟨ql, f_ql, g_ql⟩ := hx_rf hT g_qw tt_8 (k := 3) (u := 40) rfl
  have pf_ql := il qw ql f_qw f_ql
  obtain ⟨nw, f_m_now⟩ : ∃ y : Int32, hl1.2.1 am 0 = y := ⟨_, rfl⟩
  have b_nw := hT.gi gm tt_10 (k := 0) rfl
  rw [f_m_now] at b_nw
  have b_nw : 0 ≤ nw.toInt ∧ nw.toInt ≤ 7999 := b_nw
  obtain ⟨np, f_m_persons⟩ : ∃ y : Int32, hl1.2.1 am 20 = y := ⟨_, rfl⟩
  have b_np := hT.gi gm tt_10 (k := 20) rfl
  rw [f_m_persons] at b_np
  have b_np : 0 ≤ np.toInt ∧ np.toInt ≤ 40 := b_np
  obtain ⟨a0, f_m_acts⟩ : ∃ y : Int32, hl1.2.1 am 1 = y := ⟨_, rfl⟩
  have b_a0 := hT.gi gm tt_10 (k := 1) rfl
  rw [f_m_acts] at b_a0
  have b_a0 : 0 ≤ a0.toInt ∧ a0.toInt ≤ 8 := b_a0
  obtain ⟨c0, f_m_claims⟩ : ∃ y : Int32, hl1.2.1 am 36 = y := ⟨_, rfl⟩
  have b_c0 := hT.gi gm tt_10 (k := 36) rfl
  rw [f_m_claims] at b_c0
  have b_c0 : 0 ≤ c0.toInt ∧ c0.toInt ≤ 100 := b_c0
  obtain ⟨m0, f_m_heardMany⟩ : ∃ y : Int32, hl1.2.1 am 57 = y := ⟨_, rfl⟩
  have b_m0 := hT.gi gm tt_10 (k := 57) rfl
  rw [f_m_heardMany] at b_m0
  have b_m0 : 0 ≤ m0.toInt ∧ m0.toInt ≤ 100 := b_m0
  have f_x_now : hl1.2.1 ax 2 = nw := he_nw.trans f_m_now
  have f_x_personCount : hl1.2.1 ax 8 = np := he_np.trans f_m_persons
  obtain ⟨mw, f_mw, g_mw⟩ := hx_rf hT gm tt_10 (k := 19) (u := 57) rfl
  obtain ⟨F_mw, n_mw⟩ : ∃ g : Nat → Int32, hl1.2.1 mw = g := ⟨_, rfl⟩
  obtain ⟨mr, f_mr, g_mr⟩ := hx_rf hT gm tt_10 (k := 3) (u := 50) rfl
  obtain ⟨F_mr, n_mr⟩ : ∃ g : Nat → Int32, hl1.2.1 mr = g := ⟨_, rfl⟩
  obtain ⟨mp, f_mp, g_mp⟩ := hx_rf hT gm tt_10 (k := 5) (u := 52) rfl
  obtain ⟨F_mp, n_mp⟩ : ∃ g : Nat → Int32, hl1.2.1 mp = g := ⟨_, rfl⟩
  obtain ⟨mn, f_mn, g_mn⟩ := hx_rf hT gm tt_10 (k := 4) (u := 51) rfl
  obtain ⟨F_mn, n_mn⟩ : ∃ g : Nat → Int32, hl1.2.1 mn = g := ⟨_, rfl⟩
  obtain ⟨ml, f_ml, g_ml⟩ := hx_rf hT gm tt_10 (k := 44) (u := 79) rfl
  obtain ⟨F_ml, n_ml⟩ : ∃ g : Nat → Int32, hl1.2.1 ml = g := ⟨_, rfl⟩
  obtain ⟨mh, f_mh, g_mh⟩ := hx_rf hT gm tt_10 (k := 47) (u := 82) rfl
  obtain ⟨F_mh, n_mh⟩ : ∃ g : Nat → Int32, hl1.2.1 mh = g := ⟨_, rfl⟩
  obtain ⟨mt, f_mt, g_mt⟩ := hx_rf hT gm tt_10 (k := 45) (u := 80) rfl
  obtain ⟨F_mt, n_mt⟩ : ∃ g : Nat → Int32, hl1.2.1 mt = g := ⟨_, rfl⟩
  have hwd := jw mw f_mw; rw [n_mw] at hwd
  have hWK := jr mr f_mr; rw [n_mr, f_m_acts] at hWK
  have hRP := jp mp mn f_mp f_mn; rw [n_mp, n_mn, f_m_acts] at hRP
  have hPL := jl ml f_ml; rw [n_ml, f_m_claims, f_m_acts] at hPL
  have hHC := jh mh f_mh; rw [n_mh, f_m_heardMany, f_m_claims] at hHC
  have hTR := jt mt f_mt; rw [n_mt] at hTR
  refine lv_aload_n hx hb dL_law_1208 rfl (lv_at hl 2 rfl) ?_
  refine lv_aload_n hx hb dL_law_1209 rfl (lv_at hl 3 rfl) ?_
  refine lv_iload_n hx hb dL_law_1210 rfl (lv_at hl 0 rfl) ?_
  refine lv_iconst (v := 1) hx hb dL_law_1211 (by decide) ?_
  refine lv_iadd hx hb dL_law_1212 ?_
  have rg_596 := i32_r i
  refine lv_topi (fun x_597 ex_597 => ?_)
  have zx_597 : x_597.toInt = i.toInt + 1 := by rw [ex_597]; exact i32_add rfl (by decide) (by omega) (by omega)
  refine va_sld hx hb hX hbl hbA hW.2.2.2.1 (vp_in_iff.mpr ⟨by omega, by omega⟩) dL_law_1213 ?_
  refine lv_topi (fun x_598 ex_598 => ?_)
  refine hx_goi (hx_runV (As := [.int x_598]) (rest := []) ⟨hx, hb, hml, hown, hts⟩ hW gx tt_9 (T := TX9) (N := 20) rfl (t_X9_netted l dC dI dA L1 hl1 H.size ax x_598 hT gx) (cwV 1 hts (hx_gV kw_1035 kw_1032 kw_1033 kw_1034 kw_94) rfl rfl rfl (by decide +kernel) ⟨Nat.le_of_ble_eq_true rfl, Nat.le_of_ble_eq_true rfl⟩) rfl hl.1 rfl (Nat.le_of_ble_eq_true rfl) dL_law_1214 ⟨(show CC + 0 ≤ 600000 from by omega), (show SS + 0 ≤ 7302250 from by omega)⟩) hW (fun r_601 L_599 h_600 H locs p_602 hW => ?_)
  obtain ⟨hr_603, hT, hs⟩ := p_602
  have hT : hx_T T_tb L_599 h_600 := hT
  have hs : hx_S T_tb [] L1 hl1 L_599 h_600 := hs
  have f_qa := (hs.o gx trivial rfl).2.trans f_qa
  have f_qp := (hs.o gx trivial rfl).2.trans f_qp
  have f_qc := (hs.o gx trivial rfl).2.trans f_qc
  have f_qh := (hs.o gx trivial rfl).2.trans f_qh
  have f_qw := (hs.o gx trivial rfl).2.trans f_qw
  have f_ql := (hs.o g_qw trivial rfl).2.trans f_ql
  have f_m_now := (hs.o gm trivial rfl).1.trans f_m_now
  have f_m_persons := (hs.o gm trivial rfl).1.trans f_m_persons
  have f_m_acts := (hs.o gm trivial rfl).1.trans f_m_acts
  have f_m_claims := (hs.o gm trivial rfl).1.trans f_m_claims
  have f_m_heardMany := (hs.o gm trivial rfl).1.trans f_m_heardMany
  have f_x_now := (hs.o gx trivial rfl).1.trans f_x_now
  have f_x_personCount := (hs.o gx trivial rfl).1.trans f_x_personCount
  have f_mw := (hs.o gm trivial rfl).2.trans f_mw
  have f_mr := (hs.o gm trivial rfl).2.trans f_mr
  have f_mp := (hs.o gm trivial rfl).2.trans f_mp
  have f_mn := (hs.o gm trivial rfl).2.trans f_mn
  have f_ml := (hs.o gm trivial rfl).2.trans f_ml
  have f_mh := (hs.o gm trivial rfl).2.trans f_mh
  have f_mt := (hs.o gm trivial rfl).2.trans f_mt
  have pf_qa : ∀ j : Nat, (j : Int) < (h_600.2.1 ax 6).toInt → h_600.2.2 qa j ≠ none := by
    intro j hj; rw [(hs.o gx trivial rfl).1] at hj; rw [(hs.a g_qa rfl j).2]; exact pf_qa j hj
  have pf_qp : ∀ j : Nat, (j : Int) < (h_600.2.1 ax 8).toInt → h_600.2.2 qp j ≠ none := by
    intro j hj; rw [(hs.o gx trivial rfl).1] at hj; rw [(hs.a g_qp rfl j).2]; exact pf_qp j hj
  have pf_qc : ∀ j : Nat, (j : Int) < (h_600.2.1 ax 11).toInt → h_600.2.2 qc j ≠ none := by
    intro j hj; rw [(hs.o gx trivial rfl).1] at hj; rw [(hs.a g_qc rfl j).2]; exact pf_qc j hj
  have pf_qh : ∀ j : Nat, (j : Int) < (h_600.2.1 ax 13).toInt → h_600.2.2 qh j ≠ none := by
    intro j hj; rw [(hs.o gx trivial rfl).1] at hj; rw [(hs.a g_qh rfl j).2]; exact pf_qh j hj
  have pf_ql : ∀ j : Nat, (j : Int) < (h_600.2.1 qw 0).toInt → h_600.2.2 ql j ≠ none := by
    intro j hj; rw [(hs.o g_qw trivial rfl).1] at hj; rw [(hs.a g_ql rfl j).2]; exact pf_ql j hj
  have n_mw : h_600.2.1 mw = F_mw := (funext fun j => (hs.a g_mw rfl j).1).trans n_mw
  have n_mr : h_600.2.1 mr = F_mr := (funext fun j => (hs.a g_mr rfl j).1).trans n_mr
  have n_mp : h_600.2.1 mp = F_mp := (funext fun j => (hs.a g_mp rfl j).1).trans n_mp
  have n_mn : h_600.2.1 mn = F_mn := (funext fun j => (hs.a g_mn rfl j).1).trans n_mn
  have n_ml : h_600.2.1 ml = F_ml := (funext fun j => (hs.a g_ml rfl j).1).trans n_ml
  have n_mh : h_600.2.1 mh = F_mh := (funext fun j => (hs.a g_mh rfl j).1).trans n_mh
  have n_mt : h_600.2.1 mt = F_mt := (funext fun j => (hs.a g_mt rfl j).1).trans n_mt
  have gx := gx.S hs
  have gm := gm.S hs
  have g_qa := g_qa.S hs
  have g_qp := g_qp.S hs
  have g_qc := g_qc.S hs
  have g_qh := g_qh.S hs
  have g_qw := g_qw.S hs
  have g_ql := g_ql.S hs
  have g_mw := g_mw.S hs
  have g_mr := g_mr.S hs
  have g_mp := g_mp.S hs
  have g_mn := g_mn.S hs
  have g_ml := g_ml.S hs
  have g_mh := g_mh.S hs
  have g_mt := g_mt.S hs
  refine lv_pop hx hb dL_law_1217 rfl ?_
  refine lv_aload_n hx hb dL_law_1218 rfl (lv_at hl 1 rfl) ?_
  refine lv_aload_n hx hb dL_law_1219 rfl (lv_at hl 3 rfl) ?_
  refine lv_iload_n hx hb dL_law_1220 rfl (lv_at hl 0 rfl) ?_
  refine lv_iconst (v := 1) hx hb dL_law_1221 (by decide) ?_
  refine lv_iadd hx hb dL_law_1222 ?_
  refine lv_topi (fun x_604 ex_604 => ?_)
  have zx_604 : x_604.toInt = i.toInt + 1 := by rw [ex_604]; exact i32_add rfl (by decide) (by omega) (by omega)
  obtain rfl : x_597 = x_604 := ex_597.trans ex_604.symm
  refine va_sld hx hb hX hbl hbA hW.2.2.2.1 (vp_in_iff.mpr ⟨by omega, by omega⟩) dL_law_1223 ?_
  refine lv_topi (fun x_605 ex_605 => ?_)
  obtain rfl : x_598 = x_605 := ex_598.trans ex_605.symm
  refine hx_goi (hx_runV (As := [.int x_598]) (rest := []) ⟨hx, hb, hml, hown, hts⟩ hW gm tt_10 (T := TX10) (N := 98) rfl (t_X10_netted l dC dI dA L_599 h_600 H.size am x_598 hT gm) (cwV 1 hts (hx_gV kw_1713 kw_1710 kw_1711 kw_1712 kw_103) rfl rfl rfl (by decide +kernel) ⟨Nat.le_of_ble_eq_true rfl, Nat.le_of_ble_eq_true rfl⟩) rfl hl.1 rfl (Nat.le_of_ble_eq_true rfl) dL_law_1224 ⟨(show CC + 0 + 0 ≤ 600000 from by omega), (show SS + 0 + 0 ≤ 7302250 from by omega)⟩) hW (fun r_608 L_606 h_607 H locs p_609 hW => ?_)
  obtain ⟨hr_610, hT, hs⟩ := p_609
  have hT : hx_T T_tb L_606 h_607 := hT
  have hs : hx_S T_tb [] L_599 h_600 L_606 h_607 := hs
  have f_qa := (hs.o gx trivial rfl).2.trans f_qa
  have f_qp := (hs.o gx trivial rfl).2.trans f_qp
  have f_qc := (hs.o gx trivial rfl).2.trans f_qc
  have f_qh := (hs.o gx trivial rfl).2.trans f_qh
  have f_qw := (hs.o gx trivial rfl).2.trans f_qw
  have f_ql := (hs.o g_qw trivial rfl).2.trans f_ql
  have f_m_now := (hs.o gm trivial rfl).1.trans f_m_now
  have f_m_persons := (hs.o gm trivial rfl).1.trans f_m_persons
  have f_m_acts := (hs.o gm trivial rfl).1.trans f_m_acts
  have f_m_claims := (hs.o gm trivial rfl).1.trans f_m_claims
  have f_m_heardMany := (hs.o gm trivial rfl).1.trans f_m_heardMany
  have f_x_now := (hs.o gx trivial rfl).1.trans f_x_now
  have f_x_personCount := (hs.o gx trivial rfl).1.trans f_x_personCount
  have f_mw := (hs.o gm trivial rfl).2.trans f_mw
  have f_mr := (hs.o gm trivial rfl).2.trans f_mr
  have f_mp := (hs.o gm trivial rfl).2.trans f_mp
  have f_mn := (hs.o gm trivial rfl).2.trans f_mn
  have f_ml := (hs.o gm trivial rfl).2.trans f_ml
  have f_mh := (hs.o gm trivial rfl).2.trans f_mh
  have f_mt := (hs.o gm trivial rfl).2.trans f_mt
  have pf_qa : ∀ j : Nat, (j : Int) < (h_607.2.1 ax 6).toInt → h_607.2.2 qa j ≠ none := by
    intro j hj; rw [(hs.o gx trivial rfl).1] at hj; rw [(hs.a g_qa rfl j).2]; exact pf_qa j hj
  have pf_qp : ∀ j : Nat, (j : Int) < (h_607.2.1 ax 8).toInt → h_607.2.2 qp j ≠ none := by
    intro j hj; rw [(hs.o gx trivial rfl).1] at hj; rw [(hs.a g_qp rfl j).2]; exact pf_qp j hj
  have pf_qc : ∀ j : Nat, (j : Int) < (h_607.2.1 ax 11).toInt → h_607.2.2 qc j ≠ none := by
    intro j hj; rw [(hs.o gx trivial rfl).1] at hj; rw [(hs.a g_qc rfl j).2]; exact pf_qc j hj
  have pf_qh : ∀ j : Nat, (j : Int) < (h_607.2.1 ax 13).toInt → h_607.2.2 qh j ≠ none := by
    intro j hj; rw [(hs.o gx trivial rfl).1] at hj; rw [(hs.a g_qh rfl j).2]; exact pf_qh j hj
  have pf_ql : ∀ j : Nat, (j : Int) < (h_607.2.1 qw 0).toInt → h_607.2.2 ql j ≠ none := by
    intro j hj; rw [(hs.o g_qw trivial rfl).1] at hj; rw [(hs.a g_ql rfl j).2]; exact pf_ql j hj
  have n_mw : h_607.2.1 mw = F_mw := (funext fun j => (hs.a g_mw rfl j).1).trans n_mw
  have n_mr : h_607.2.1 mr = F_mr := (funext fun j => (hs.a g_mr rfl j).1).trans n_mr
  have n_mp : h_607.2.1 mp = F_mp := (funext fun j => (hs.a g_mp rfl j).1).trans n_mp
  have n_mn : h_607.2.1 mn = F_mn := (funext fun j => (hs.a g_mn rfl j).1).trans n_mn
  have n_ml : h_607.2.1 ml = F_ml := (funext fun j => (hs.a g_ml rfl j).1).trans n_ml
  have n_mh : h_607.2.1 mh = F_mh := (funext fun j => (hs.a g_mh rfl j).1).trans n_mh
  have n_mt : h_607.2.1 mt = F_mt := (funext fun j => (hs.a g_mt rfl j).1).trans n_mt
  have gx := gx.S hs
  have gm := gm.S hs
  have g_qa := g_qa.S hs
  have g_qp := g_qp.S hs
  have g_qc := g_qc.S hs
  have g_qh := g_qh.S hs
  have g_qw := g_qw.S hs
  have g_ql := g_ql.S hs
  have g_mw := g_mw.S hs
  have g_mr := g_mr.S hs
  have g_mp := g_mp.S hs
  have g_mn := g_mn.S hs
  have g_ml := g_ml.S hs
  have g_mh := g_mh.S hs
  have g_mt := g_mt.S hs
  refine lv_pop hx hb dL_law_1227 rfl ?_
  refine lv_goto (tgt := 1379) hx hb dL_law_1228 (by decide) ?_
  refine W.widen (k := CC + 3) (n := SS + 179) (by omega) (by omega) ?_
  exact kk L_606 h_607 H locs ls hW ⟨hT, gx, gm, ⟨f_x_now.trans f_m_now.symm, f_x_personCount.trans f_m_persons.symm, trivial⟩, ⟨hx_ob f_qa pf_qa, hx_ob f_qp pf_qp, hx_ob f_qc pf_qc, hx_ob f_qh pf_qh, (fun w q hw hq => by obtain rfl : qw = w := Option.some.inj (f_qw.symm.trans hw); obtain rfl : ql = q := Option.some.inj (f_ql.symm.trans hq); exact pf_ql)⟩, ⟨hx_ob f_mw (by rw [n_mw]; exact hwd), hx_ob f_mr (by rw [n_mr, f_m_acts]; exact hWK), hx_ob2 f_mp f_mn (by rw [n_mp, n_mn, f_m_acts]; exact hRP), hx_ob f_ml (by rw [n_ml, f_m_claims, f_m_acts]; exact hPL), hx_ob f_mh (by rw [n_mh, f_m_heardMany, f_m_claims]; exact hHC), hx_ob f_mt (by rw [n_mt]; exact (hx_TR_le hTR (by omega)))⟩⟩ hl

set_option maxHeartbeats 4000000 in
set_option maxRecDepth 100000 in
theorem law_case_25 {p : Program} {e : Env} {s : State} {m : MethodId} {below : List Frame} {meth : Method} {c : Code} (l : Launch) {b LN : Nat} {xs : Nat → Int32} (hx : p.tables.exec = Jvm.exec) (hb : c.code = code) (hr : meth.sig.returnType = ret) (hlocks : meth.locks = false) (hml : c.maxLocals = 4) (hown : s.vm.findClass "SmallCourtLaw" = some m.cls) (hts : ∀ w ∈ hx_all, w.before #[Value.ref b] s = true) (hX : va_X b LN xs s s.heap) (hbl : b < s.heap.size) (hbA : ¬ s.heap.size ≤ b) (hLN : LN ≤ 3584) (dC : Nat → ClassId) (dI : Nat → Nat → Nat) (dA : Nat → ClassId) (b0 : hx_z) (ax am : Nat) (T1 : Int) (hT0 : 0 ≤ T1) (hT1 : T1 ≤ 511) (i : Int32) (hi0 : 0 ≤ i.toInt) (hiL : i.toInt + 7 ≤ LN) (CC SS : Nat) (hCC : CC + 3 ≤ 600000) (hSS : SS + 179 ≤ 7302250) (L1 : List Nat) (hl1 : hx_h) (H : Heap) (locs : List Loc) (ls : Array Slot) (hW : hx_W T_tb (P_ty dA) (dC, dI) vwCl (fun q : Nat => s.heap.size ≤ q) s.heap L1 hl1 s H locs) (hZ : hx_Xt (fun q : Nat => s.heap.size ≤ q) b0 s) (hI : hx_IV T1 ax am L1 hl1) (hl : lv_has ls 4 [(3, .int i), (2, .ref am), (1, .ref ax), (0, .ref b)]) (kk : ∀ (L2 : List Nat) (h2 : hx_h) (H2 : Heap) (locs2 : List Loc) (ls2 : Array Slot), hx_W T_tb (P_ty dA) (dC, dI) vwCl (fun q : Nat => s.heap.size ≤ q) s.heap L2 h2 s H2 locs2 → hx_IV (T1 + 1) ax am L2 h2 → lv_has ls2 4 [(3, .int i), (2, .ref am), (1, .ref ax), (0, .ref b)] → W p l e room_1 s m #[Value.ref b] below meth c H2 locs2 (CC + 3) (SS + 179) (lw_Z below #[Value.ref b] s) (F0 m 1379 ls2 [])) : W p l e room_1 s m #[Value.ref b] below meth c H locs CC SS (lw_Z below #[Value.ref b] s) (F0 m 1231 ls []) := by
  obtain ⟨hT, gx, gm, ⟨he_nw, he_np, -⟩, ⟨ia, ip, ic, ih, il⟩, ⟨jw, jr, jp, jl, jh, jt⟩⟩ := hI
  obtain ⟨qa, f_qa, g_qa⟩ := hx_rf hT gx tt_9 (k := 5) (u := 43) rfl
  have pf_qa := ia qa f_qa
  obtain ⟨qp, f_qp, g_qp⟩ := hx_rf hT gx tt_9 (k := 7) (u := 44) rfl
  have pf_qp := ip qp f_qp
  obtain ⟨qc, f_qc, g_qc⟩ := hx_rf hT gx tt_9 (k := 10) (u := 45) rfl
  have pf_qc := ic qc f_qc
  obtain ⟨qh, f_qh, g_qh⟩ := hx_rf hT gx tt_9 (k := 12) (u := 46) rfl
  have pf_qh := ih qh f_qh
  obtain ⟨qw, f_qw, g_qw⟩ := hx_rf hT gx tt_9 (k := 19) (u := 8) rfl
  obtain ⟨ql, f_ql, g_ql⟩ := hx_rf hT g_qw tt_8 (k := 3) (u := 40) rfl
  have pf_ql := il qw ql f_qw f_ql
  obtain ⟨nw, f_m_now⟩ : ∃ y : Int32, hl1.2.1 am 0 = y := ⟨_, rfl⟩
  have b_nw := hT.gi gm tt_10 (k := 0) rfl
  rw [f_m_now] at b_nw
  have b_nw : 0 ≤ nw.toInt ∧ nw.toInt ≤ 7999 := b_nw
  obtain ⟨np, f_m_persons⟩ : ∃ y : Int32, hl1.2.1 am 20 = y := ⟨_, rfl⟩
  have b_np := hT.gi gm tt_10 (k := 20) rfl
  rw [f_m_persons] at b_np
  have b_np : 0 ≤ np.toInt ∧ np.toInt ≤ 40 := b_np
  obtain ⟨a0, f_m_acts⟩ : ∃ y : Int32, hl1.2.1 am 1 = y := ⟨_, rfl⟩
  have b_a0 := hT.gi gm tt_10 (k := 1) rfl
  rw [f_m_acts] at b_a0
  have b_a0 : 0 ≤ a0.toInt ∧ a0.toInt ≤ 8 := b_a0
  obtain ⟨c0, f_m_claims⟩ : ∃ y : Int32, hl1.2.1 am 36 = y := ⟨_, rfl⟩
  have b_c0 := hT.gi gm tt_10 (k := 36) rfl
  rw [f_m_claims] at b_c0
  have b_c0 : 0 ≤ c0.toInt ∧ c0.toInt ≤ 100 := b_c0
  obtain ⟨m0, f_m_heardMany⟩ : ∃ y : Int32, hl1.2.1 am 57 = y := ⟨_, rfl⟩
  have b_m0 := hT.gi gm tt_10 (k := 57) rfl
  rw [f_m_heardMany] at b_m0
  have b_m0 : 0 ≤ m0.toInt ∧ m0.toInt ≤ 100 := b_m0
  have f_x_now : hl1.2.1 ax 2 = nw := he_nw.trans f_m_now
  have f_x_personCount : hl1.2.1 ax 8 = np := he_np.trans f_m_persons
  obtain ⟨mw, f_mw, g_mw⟩ := hx_rf hT gm tt_10 (k := 19) (u := 57) rfl
  obtain ⟨F_mw, n_mw⟩ : ∃ g : Nat → Int32, hl1.2.1 mw = g := ⟨_, rfl⟩
  obtain ⟨mr, f_mr, g_mr⟩ := hx_rf hT gm tt_10 (k := 3) (u := 50) rfl
  obtain ⟨F_mr, n_mr⟩ : ∃ g : Nat → Int32, hl1.2.1 mr = g := ⟨_, rfl⟩
  obtain ⟨mp, f_mp, g_mp⟩ := hx_rf hT gm tt_10 (k := 5) (u := 52) rfl
  obtain ⟨F_mp, n_mp⟩ : ∃ g : Nat → Int32, hl1.2.1 mp = g := ⟨_, rfl⟩
  obtain ⟨mn, f_mn, g_mn⟩ := hx_rf hT gm tt_10 (k := 4) (u := 51) rfl
  obtain ⟨F_mn, n_mn⟩ : ∃ g : Nat → Int32, hl1.2.1 mn = g := ⟨_, rfl⟩
  obtain ⟨ml, f_ml, g_ml⟩ := hx_rf hT gm tt_10 (k := 44) (u := 79) rfl
  obtain ⟨F_ml, n_ml⟩ : ∃ g : Nat → Int32, hl1.2.1 ml = g := ⟨_, rfl⟩
  obtain ⟨mh, f_mh, g_mh⟩ := hx_rf hT gm tt_10 (k := 47) (u := 82) rfl
  obtain ⟨F_mh, n_mh⟩ : ∃ g : Nat → Int32, hl1.2.1 mh = g := ⟨_, rfl⟩
  obtain ⟨mt, f_mt, g_mt⟩ := hx_rf hT gm tt_10 (k := 45) (u := 80) rfl
  obtain ⟨F_mt, n_mt⟩ : ∃ g : Nat → Int32, hl1.2.1 mt = g := ⟨_, rfl⟩
  have hwd := jw mw f_mw; rw [n_mw] at hwd
  have hWK := jr mr f_mr; rw [n_mr, f_m_acts] at hWK
  have hRP := jp mp mn f_mp f_mn; rw [n_mp, n_mn, f_m_acts] at hRP
  have hPL := jl ml f_ml; rw [n_ml, f_m_claims, f_m_acts] at hPL
  have hHC := jh mh f_mh; rw [n_mh, f_m_heardMany, f_m_claims] at hHC
  have hTR := jt mt f_mt; rw [n_mt] at hTR
  refine lv_aload_n hx hb dL_law_1231 rfl (lv_at hl 2 rfl) ?_
  refine lv_aload_n hx hb dL_law_1232 rfl (lv_at hl 3 rfl) ?_
  refine lv_iload_n hx hb dL_law_1233 rfl (lv_at hl 0 rfl) ?_
  refine lv_iconst (v := 1) hx hb dL_law_1234 (by decide) ?_
  refine lv_iadd hx hb dL_law_1235 ?_
  have rg_611 := i32_r i
  refine lv_topi (fun x_612 ex_612 => ?_)
  have zx_612 : x_612.toInt = i.toInt + 1 := by rw [ex_612]; exact i32_add rfl (by decide) (by omega) (by omega)
  refine va_sld hx hb hX hbl hbA hW.2.2.2.1 (vp_in_iff.mpr ⟨by omega, by omega⟩) dL_law_1236 ?_
  refine lv_topi (fun x_613 ex_613 => ?_)
  refine hx_goi (hx_runV (As := [.int x_613]) (rest := []) ⟨hx, hb, hml, hown, hts⟩ hW gx tt_9 (T := TX9) (N := 20) rfl (t_X9_list l dC dI dA L1 hl1 H.size ax x_613 hT gx qc g_qc f_qc qw g_qw f_qw ql g_ql f_ql pf_qc pf_ql) (cwV 1 hts (hx_gV kw_1039 kw_1036 kw_1037 kw_1038 kw_94) rfl rfl rfl (by decide +kernel) ⟨Nat.le_of_ble_eq_true rfl, Nat.le_of_ble_eq_true rfl⟩) rfl hl.1 rfl (Nat.le_of_ble_eq_true rfl) dL_law_1237 ⟨(show CC + 0 ≤ 600000 from by omega), (show SS + 0 ≤ 7302250 from by omega)⟩) hW (fun r_616 L_614 h_615 H locs p_617 hW => ?_)
  obtain ⟨hr_618, hT, hs, pf_619⟩ := p_617
  have hT : hx_T T_tb L_614 h_615 := hT
  have hs : hx_S T_tb [(8, 0), (40, 0)] L1 hl1 L_614 h_615 := hs
  have f_qa := (hs.o gx trivial rfl).2.trans f_qa
  have f_qp := (hs.o gx trivial rfl).2.trans f_qp
  have f_qc := (hs.o gx trivial rfl).2.trans f_qc
  have f_qh := (hs.o gx trivial rfl).2.trans f_qh
  have f_qw := (hs.o gx trivial rfl).2.trans f_qw
  have f_ql := (hs.o g_qw trivial rfl).2.trans f_ql
  have f_m_now := (hs.o gm trivial rfl).1.trans f_m_now
  have f_m_persons := (hs.o gm trivial rfl).1.trans f_m_persons
  have f_m_acts := (hs.o gm trivial rfl).1.trans f_m_acts
  have f_m_claims := (hs.o gm trivial rfl).1.trans f_m_claims
  have f_m_heardMany := (hs.o gm trivial rfl).1.trans f_m_heardMany
  have f_x_now := (hs.o gx trivial rfl).1.trans f_x_now
  have f_x_personCount := (hs.o gx trivial rfl).1.trans f_x_personCount
  have f_mw := (hs.o gm trivial rfl).2.trans f_mw
  have f_mr := (hs.o gm trivial rfl).2.trans f_mr
  have f_mp := (hs.o gm trivial rfl).2.trans f_mp
  have f_mn := (hs.o gm trivial rfl).2.trans f_mn
  have f_ml := (hs.o gm trivial rfl).2.trans f_ml
  have f_mh := (hs.o gm trivial rfl).2.trans f_mh
  have f_mt := (hs.o gm trivial rfl).2.trans f_mt
  have pf_qa : ∀ j : Nat, (j : Int) < (h_615.2.1 ax 6).toInt → h_615.2.2 qa j ≠ none := by
    intro j hj; rw [(hs.o gx trivial rfl).1] at hj; rw [(hs.a g_qa rfl j).2]; exact pf_qa j hj
  have pf_qp : ∀ j : Nat, (j : Int) < (h_615.2.1 ax 8).toInt → h_615.2.2 qp j ≠ none := by
    intro j hj; rw [(hs.o gx trivial rfl).1] at hj; rw [(hs.a g_qp rfl j).2]; exact pf_qp j hj
  have pf_qc : ∀ j : Nat, (j : Int) < (h_615.2.1 ax 11).toInt → h_615.2.2 qc j ≠ none := by
    intro j hj; rw [(hs.o gx trivial rfl).1] at hj; rw [(hs.a g_qc rfl j).2]; exact pf_qc j hj
  have pf_qh : ∀ j : Nat, (j : Int) < (h_615.2.1 ax 13).toInt → h_615.2.2 qh j ≠ none := by
    intro j hj; rw [(hs.o gx trivial rfl).1] at hj; rw [(hs.a g_qh rfl j).2]; exact pf_qh j hj
  have n_mw : h_615.2.1 mw = F_mw := (funext fun j => (hs.a g_mw rfl j).1).trans n_mw
  have n_mr : h_615.2.1 mr = F_mr := (funext fun j => (hs.a g_mr rfl j).1).trans n_mr
  have n_mp : h_615.2.1 mp = F_mp := (funext fun j => (hs.a g_mp rfl j).1).trans n_mp
  have n_mn : h_615.2.1 mn = F_mn := (funext fun j => (hs.a g_mn rfl j).1).trans n_mn
  have n_ml : h_615.2.1 ml = F_ml := (funext fun j => (hs.a g_ml rfl j).1).trans n_ml
  have n_mh : h_615.2.1 mh = F_mh := (funext fun j => (hs.a g_mh rfl j).1).trans n_mh
  have n_mt : h_615.2.1 mt = F_mt := (funext fun j => (hs.a g_mt rfl j).1).trans n_mt
  have gx := gx.S hs
  have gm := gm.S hs
  have g_qa := g_qa.S hs
  have g_qp := g_qp.S hs
  have g_qc := g_qc.S hs
  have g_qh := g_qh.S hs
  have g_qw := g_qw.S hs
  have g_ql := g_ql.S hs
  have g_mw := g_mw.S hs
  have g_mr := g_mr.S hs
  have g_mp := g_mp.S hs
  have g_mn := g_mn.S hs
  have g_ml := g_ml.S hs
  have g_mh := g_mh.S hs
  have g_mt := g_mt.S hs
  have pf_619 : ∀ j : Nat, (j : Int) < (h_615.2.1 qw 0).toInt → h_615.2.2 ql j ≠ none := pf_619
  refine lv_pop hx hb dL_law_1240 rfl ?_
  refine lv_aload_n hx hb dL_law_1241 rfl (lv_at hl 1 rfl) ?_
  refine lv_aload_n hx hb dL_law_1242 rfl (lv_at hl 3 rfl) ?_
  refine lv_iload_n hx hb dL_law_1243 rfl (lv_at hl 0 rfl) ?_
  refine lv_iconst (v := 1) hx hb dL_law_1244 (by decide) ?_
  refine lv_iadd hx hb dL_law_1245 ?_
  refine lv_topi (fun x_620 ex_620 => ?_)
  have zx_620 : x_620.toInt = i.toInt + 1 := by rw [ex_620]; exact i32_add rfl (by decide) (by omega) (by omega)
  obtain rfl : x_612 = x_620 := ex_612.trans ex_620.symm
  refine va_sld hx hb hX hbl hbA hW.2.2.2.1 (vp_in_iff.mpr ⟨by omega, by omega⟩) dL_law_1246 ?_
  refine lv_topi (fun x_621 ex_621 => ?_)
  obtain rfl : x_613 = x_621 := ex_613.trans ex_621.symm
  refine hx_goi (hx_runV (As := [.int x_613]) (rest := []) ⟨hx, hb, hml, hown, hts⟩ hW gm tt_10 (T := TX10) (N := 98) rfl (t_X10_list l dC dI dA L_614 h_615 H.size am x_613 hT gm) (cwV 1 hts (hx_gV kw_1717 kw_1714 kw_1715 kw_1716 kw_103) rfl rfl rfl (by decide +kernel) ⟨Nat.le_of_ble_eq_true rfl, Nat.le_of_ble_eq_true rfl⟩) rfl hl.1 rfl (Nat.le_of_ble_eq_true rfl) dL_law_1247 ⟨(show CC + 0 + 0 ≤ 600000 from by omega), (show SS + 0 + 0 ≤ 7302250 from by omega)⟩) hW (fun r_624 L_622 h_623 H locs p_625 hW => ?_)
  obtain ⟨hr_626, hT, hs⟩ := p_625
  have hT : hx_T T_tb L_622 h_623 := hT
  have hs : hx_S T_tb [(10, 90), (112, 0)] L_614 h_615 L_622 h_623 := hs
  have f_qa := (hs.o gx trivial rfl).2.trans f_qa
  have f_qp := (hs.o gx trivial rfl).2.trans f_qp
  have f_qc := (hs.o gx trivial rfl).2.trans f_qc
  have f_qh := (hs.o gx trivial rfl).2.trans f_qh
  have f_qw := (hs.o gx trivial rfl).2.trans f_qw
  have f_ql := (hs.o g_qw trivial rfl).2.trans f_ql
  have f_m_now := (hs.o gm trivial rfl).1.trans f_m_now
  have f_m_persons := (hs.o gm trivial rfl).1.trans f_m_persons
  have f_m_acts := (hs.o gm trivial rfl).1.trans f_m_acts
  have f_m_claims := (hs.o gm trivial rfl).1.trans f_m_claims
  have f_m_heardMany := (hs.o gm trivial rfl).1.trans f_m_heardMany
  have f_x_now := (hs.o gx trivial rfl).1.trans f_x_now
  have f_x_personCount := (hs.o gx trivial rfl).1.trans f_x_personCount
  have f_mw := (hs.o gm trivial rfl).2.trans f_mw
  have f_mr := (hs.o gm trivial rfl).2.trans f_mr
  have f_mp := (hs.o gm trivial rfl).2.trans f_mp
  have f_mn := (hs.o gm trivial rfl).2.trans f_mn
  have f_ml := (hs.o gm trivial rfl).2.trans f_ml
  have f_mh := (hs.o gm trivial rfl).2.trans f_mh
  have f_mt := (hs.o gm trivial rfl).2.trans f_mt
  have pf_qa : ∀ j : Nat, (j : Int) < (h_623.2.1 ax 6).toInt → h_623.2.2 qa j ≠ none := by
    intro j hj; rw [(hs.o gx trivial rfl).1] at hj; rw [(hs.a g_qa rfl j).2]; exact pf_qa j hj
  have pf_qp : ∀ j : Nat, (j : Int) < (h_623.2.1 ax 8).toInt → h_623.2.2 qp j ≠ none := by
    intro j hj; rw [(hs.o gx trivial rfl).1] at hj; rw [(hs.a g_qp rfl j).2]; exact pf_qp j hj
  have pf_qc : ∀ j : Nat, (j : Int) < (h_623.2.1 ax 11).toInt → h_623.2.2 qc j ≠ none := by
    intro j hj; rw [(hs.o gx trivial rfl).1] at hj; rw [(hs.a g_qc rfl j).2]; exact pf_qc j hj
  have pf_qh : ∀ j : Nat, (j : Int) < (h_623.2.1 ax 13).toInt → h_623.2.2 qh j ≠ none := by
    intro j hj; rw [(hs.o gx trivial rfl).1] at hj; rw [(hs.a g_qh rfl j).2]; exact pf_qh j hj
  have pf_619 : ∀ j : Nat, (j : Int) < (h_623.2.1 qw 0).toInt → h_623.2.2 ql j ≠ none := by
    intro j hj; rw [(hs.o g_qw trivial rfl).1] at hj; rw [(hs.a g_ql rfl j).2]; exact pf_619 j hj
  have n_mw : h_623.2.1 mw = F_mw := (funext fun j => (hs.a g_mw rfl j).1).trans n_mw
  have n_mr : h_623.2.1 mr = F_mr := (funext fun j => (hs.a g_mr rfl j).1).trans n_mr
  have n_mp : h_623.2.1 mp = F_mp := (funext fun j => (hs.a g_mp rfl j).1).trans n_mp
  have n_mn : h_623.2.1 mn = F_mn := (funext fun j => (hs.a g_mn rfl j).1).trans n_mn
  have n_ml : h_623.2.1 ml = F_ml := (funext fun j => (hs.a g_ml rfl j).1).trans n_ml
  have n_mh : h_623.2.1 mh = F_mh := (funext fun j => (hs.a g_mh rfl j).1).trans n_mh
  have n_mt : h_623.2.1 mt = F_mt := (funext fun j => (hs.a g_mt rfl j).1).trans n_mt
  have gx := gx.S hs
  have gm := gm.S hs
  have g_qa := g_qa.S hs
  have g_qp := g_qp.S hs
  have g_qc := g_qc.S hs
  have g_qh := g_qh.S hs
  have g_qw := g_qw.S hs
  have g_ql := g_ql.S hs
  have g_mw := g_mw.S hs
  have g_mr := g_mr.S hs
  have g_mp := g_mp.S hs
  have g_mn := g_mn.S hs
  have g_ml := g_ml.S hs
  have g_mh := g_mh.S hs
  have g_mt := g_mt.S hs
  refine lv_pop hx hb dL_law_1250 rfl ?_
  refine lv_goto (tgt := 1379) hx hb dL_law_1251 (by decide) ?_
  refine W.widen (k := CC + 3) (n := SS + 179) (by omega) (by omega) ?_
  exact kk L_622 h_623 H locs ls hW ⟨hT, gx, gm, ⟨f_x_now.trans f_m_now.symm, f_x_personCount.trans f_m_persons.symm, trivial⟩, ⟨hx_ob f_qa pf_qa, hx_ob f_qp pf_qp, hx_ob f_qc pf_qc, hx_ob f_qh pf_qh, (fun w q hw hq => by obtain rfl : qw = w := Option.some.inj (f_qw.symm.trans hw); obtain rfl : ql = q := Option.some.inj (f_ql.symm.trans hq); exact pf_619)⟩, ⟨hx_ob f_mw (by rw [n_mw]; exact hwd), hx_ob f_mr (by rw [n_mr, f_m_acts]; exact hWK), hx_ob2 f_mp f_mn (by rw [n_mp, n_mn, f_m_acts]; exact hRP), hx_ob f_ml (by rw [n_ml, f_m_claims, f_m_acts]; exact hPL), hx_ob f_mh (by rw [n_mh, f_m_heardMany, f_m_claims]; exact hHC), hx_ob f_mt (by rw [n_mt]; exact (hx_TR_le hTR (by omega)))⟩⟩ hl

set_option maxHeartbeats 4000000 in
set_option maxRecDepth 100000 in
theorem law_case_26 {p : Program} {e : Env} {s : State} {m : MethodId} {below : List Frame} {meth : Method} {c : Code} (l : Launch) {b LN : Nat} {xs : Nat → Int32} (hx : p.tables.exec = Jvm.exec) (hb : c.code = code) (hr : meth.sig.returnType = ret) (hlocks : meth.locks = false) (hml : c.maxLocals = 4) (hown : s.vm.findClass "SmallCourtLaw" = some m.cls) (hts : ∀ w ∈ hx_all, w.before #[Value.ref b] s = true) (hX : va_X b LN xs s s.heap) (hbl : b < s.heap.size) (hbA : ¬ s.heap.size ≤ b) (hLN : LN ≤ 3584) (dC : Nat → ClassId) (dI : Nat → Nat → Nat) (dA : Nat → ClassId) (b0 : hx_z) (ax am : Nat) (T1 : Int) (hT0 : 0 ≤ T1) (hT1 : T1 ≤ 511) (i : Int32) (hi0 : 0 ≤ i.toInt) (hiL : i.toInt + 7 ≤ LN) (CC SS : Nat) (hCC : CC + 3 ≤ 600000) (hSS : SS + 179 ≤ 7302250) (L1 : List Nat) (hl1 : hx_h) (H : Heap) (locs : List Loc) (ls : Array Slot) (hW : hx_W T_tb (P_ty dA) (dC, dI) vwCl (fun q : Nat => s.heap.size ≤ q) s.heap L1 hl1 s H locs) (hZ : hx_Xt (fun q : Nat => s.heap.size ≤ q) b0 s) (hI : hx_IV T1 ax am L1 hl1) (hl : lv_has ls 4 [(3, .int i), (2, .ref am), (1, .ref ax), (0, .ref b)]) (kk : ∀ (L2 : List Nat) (h2 : hx_h) (H2 : Heap) (locs2 : List Loc) (ls2 : Array Slot), hx_W T_tb (P_ty dA) (dC, dI) vwCl (fun q : Nat => s.heap.size ≤ q) s.heap L2 h2 s H2 locs2 → hx_IV (T1 + 1) ax am L2 h2 → lv_has ls2 4 [(3, .int i), (2, .ref am), (1, .ref ax), (0, .ref b)] → W p l e room_1 s m #[Value.ref b] below meth c H2 locs2 (CC + 3) (SS + 179) (lw_Z below #[Value.ref b] s) (F0 m 1379 ls2 [])) : W p l e room_1 s m #[Value.ref b] below meth c H locs CC SS (lw_Z below #[Value.ref b] s) (F0 m 1254 ls []) := by
  obtain ⟨hT, gx, gm, ⟨he_nw, he_np, -⟩, ⟨ia, ip, ic, ih, il⟩, ⟨jw, jr, jp, jl, jh, jt⟩⟩ := hI
  obtain ⟨qa, f_qa, g_qa⟩ := hx_rf hT gx tt_9 (k := 5) (u := 43) rfl
  have pf_qa := ia qa f_qa
  obtain ⟨qp, f_qp, g_qp⟩ := hx_rf hT gx tt_9 (k := 7) (u := 44) rfl
  have pf_qp := ip qp f_qp
  obtain ⟨qc, f_qc, g_qc⟩ := hx_rf hT gx tt_9 (k := 10) (u := 45) rfl
  have pf_qc := ic qc f_qc
  obtain ⟨qh, f_qh, g_qh⟩ := hx_rf hT gx tt_9 (k := 12) (u := 46) rfl
  have pf_qh := ih qh f_qh
  obtain ⟨qw, f_qw, g_qw⟩ := hx_rf hT gx tt_9 (k := 19) (u := 8) rfl
  obtain ⟨ql, f_ql, g_ql⟩ := hx_rf hT g_qw tt_8 (k := 3) (u := 40) rfl
  have pf_ql := il qw ql f_qw f_ql
  obtain ⟨nw, f_m_now⟩ : ∃ y : Int32, hl1.2.1 am 0 = y := ⟨_, rfl⟩
  have b_nw := hT.gi gm tt_10 (k := 0) rfl
  rw [f_m_now] at b_nw
  have b_nw : 0 ≤ nw.toInt ∧ nw.toInt ≤ 7999 := b_nw
  obtain ⟨np, f_m_persons⟩ : ∃ y : Int32, hl1.2.1 am 20 = y := ⟨_, rfl⟩
  have b_np := hT.gi gm tt_10 (k := 20) rfl
  rw [f_m_persons] at b_np
  have b_np : 0 ≤ np.toInt ∧ np.toInt ≤ 40 := b_np
  obtain ⟨a0, f_m_acts⟩ : ∃ y : Int32, hl1.2.1 am 1 = y := ⟨_, rfl⟩
  have b_a0 := hT.gi gm tt_10 (k := 1) rfl
  rw [f_m_acts] at b_a0
  have b_a0 : 0 ≤ a0.toInt ∧ a0.toInt ≤ 8 := b_a0
  obtain ⟨c0, f_m_claims⟩ : ∃ y : Int32, hl1.2.1 am 36 = y := ⟨_, rfl⟩
  have b_c0 := hT.gi gm tt_10 (k := 36) rfl
  rw [f_m_claims] at b_c0
  have b_c0 : 0 ≤ c0.toInt ∧ c0.toInt ≤ 100 := b_c0
  obtain ⟨m0, f_m_heardMany⟩ : ∃ y : Int32, hl1.2.1 am 57 = y := ⟨_, rfl⟩
  have b_m0 := hT.gi gm tt_10 (k := 57) rfl
  rw [f_m_heardMany] at b_m0
  have b_m0 : 0 ≤ m0.toInt ∧ m0.toInt ≤ 100 := b_m0
  have f_x_now : hl1.2.1 ax 2 = nw := he_nw.trans f_m_now
  have f_x_personCount : hl1.2.1 ax 8 = np := he_np.trans f_m_persons
  obtain ⟨mw, f_mw, g_mw⟩ := hx_rf hT gm tt_10 (k := 19) (u := 57) rfl
  obtain ⟨F_mw, n_mw⟩ : ∃ g : Nat → Int32, hl1.2.1 mw = g := ⟨_, rfl⟩
  obtain ⟨mr, f_mr, g_mr⟩ := hx_rf hT gm tt_10 (k := 3) (u := 50) rfl
  obtain ⟨F_mr, n_mr⟩ : ∃ g : Nat → Int32, hl1.2.1 mr = g := ⟨_, rfl⟩
  obtain ⟨mp, f_mp, g_mp⟩ := hx_rf hT gm tt_10 (k := 5) (u := 52) rfl
  obtain ⟨F_mp, n_mp⟩ : ∃ g : Nat → Int32, hl1.2.1 mp = g := ⟨_, rfl⟩
  obtain ⟨mn, f_mn, g_mn⟩ := hx_rf hT gm tt_10 (k := 4) (u := 51) rfl
  obtain ⟨F_mn, n_mn⟩ : ∃ g : Nat → Int32, hl1.2.1 mn = g := ⟨_, rfl⟩
  obtain ⟨ml, f_ml, g_ml⟩ := hx_rf hT gm tt_10 (k := 44) (u := 79) rfl
  obtain ⟨F_ml, n_ml⟩ : ∃ g : Nat → Int32, hl1.2.1 ml = g := ⟨_, rfl⟩
  obtain ⟨mh, f_mh, g_mh⟩ := hx_rf hT gm tt_10 (k := 47) (u := 82) rfl
  obtain ⟨F_mh, n_mh⟩ : ∃ g : Nat → Int32, hl1.2.1 mh = g := ⟨_, rfl⟩
  obtain ⟨mt, f_mt, g_mt⟩ := hx_rf hT gm tt_10 (k := 45) (u := 80) rfl
  obtain ⟨F_mt, n_mt⟩ : ∃ g : Nat → Int32, hl1.2.1 mt = g := ⟨_, rfl⟩
  have hwd := jw mw f_mw; rw [n_mw] at hwd
  have hWK := jr mr f_mr; rw [n_mr, f_m_acts] at hWK
  have hRP := jp mp mn f_mp f_mn; rw [n_mp, n_mn, f_m_acts] at hRP
  have hPL := jl ml f_ml; rw [n_ml, f_m_claims, f_m_acts] at hPL
  have hHC := jh mh f_mh; rw [n_mh, f_m_heardMany, f_m_claims] at hHC
  have hTR := jt mt f_mt; rw [n_mt] at hTR
  refine lv_aload_n hx hb dL_law_1254 rfl (lv_at hl 2 rfl) ?_
  refine hx_goi (hx_runV (As := []) (rest := []) ⟨hx, hb, hml, hown, hts⟩ hW gx tt_9 (T := TX9) (N := 20) rfl (t_X9_walk_2 l dC dI dA L1 hl1 H.size ax hT gx qw g_qw f_qw ql g_ql f_ql pf_ql) (cwV 0 hts (hx_gV kw_1051 kw_1048 kw_1049 kw_1050 kw_94) rfl rfl rfl (by decide +kernel) ⟨Nat.le_of_ble_eq_true rfl, Nat.le_of_ble_eq_true rfl⟩) rfl hl.1 rfl (Nat.le_of_ble_eq_true rfl) dL_law_1255 ⟨(show CC + 0 ≤ 600000 from by omega), (show SS + 0 ≤ 7302250 from by omega)⟩) hW (fun r_629 L_627 h_628 H locs p_630 hW => ?_)
  obtain ⟨⟨w_632, fw_632, hr_631⟩, hT, hs⟩ := p_630
  have hT : hx_T T_tb L_627 h_628 := hT
  have hs : hx_S T_tb [(8, 0), (8, 1), (39, 0), (41, 0)] L1 hl1 L_627 h_628 := hs
  have f_qa := (hs.o gx trivial rfl).2.trans f_qa
  have f_qp := (hs.o gx trivial rfl).2.trans f_qp
  have f_qc := (hs.o gx trivial rfl).2.trans f_qc
  have f_qh := (hs.o gx trivial rfl).2.trans f_qh
  have f_qw := (hs.o gx trivial rfl).2.trans f_qw
  have f_ql := (hs.o g_qw trivial rfl).2.trans f_ql
  have f_m_now := (hs.o gm trivial rfl).1.trans f_m_now
  have f_m_persons := (hs.o gm trivial rfl).1.trans f_m_persons
  have f_m_acts := (hs.o gm trivial rfl).1.trans f_m_acts
  have f_m_claims := (hs.o gm trivial rfl).1.trans f_m_claims
  have f_m_heardMany := (hs.o gm trivial rfl).1.trans f_m_heardMany
  have f_x_now := (hs.o gx trivial rfl).1.trans f_x_now
  have f_x_personCount := (hs.o gx trivial rfl).1.trans f_x_personCount
  have f_mw := (hs.o gm trivial rfl).2.trans f_mw
  have f_mr := (hs.o gm trivial rfl).2.trans f_mr
  have f_mp := (hs.o gm trivial rfl).2.trans f_mp
  have f_mn := (hs.o gm trivial rfl).2.trans f_mn
  have f_ml := (hs.o gm trivial rfl).2.trans f_ml
  have f_mh := (hs.o gm trivial rfl).2.trans f_mh
  have f_mt := (hs.o gm trivial rfl).2.trans f_mt
  have pf_qa : ∀ j : Nat, (j : Int) < (h_628.2.1 ax 6).toInt → h_628.2.2 qa j ≠ none := by
    intro j hj; rw [(hs.o gx trivial rfl).1] at hj; rw [(hs.a g_qa rfl j).2]; exact pf_qa j hj
  have pf_qp : ∀ j : Nat, (j : Int) < (h_628.2.1 ax 8).toInt → h_628.2.2 qp j ≠ none := by
    intro j hj; rw [(hs.o gx trivial rfl).1] at hj; rw [(hs.a g_qp rfl j).2]; exact pf_qp j hj
  have pf_qc : ∀ j : Nat, (j : Int) < (h_628.2.1 ax 11).toInt → h_628.2.2 qc j ≠ none := by
    intro j hj; rw [(hs.o gx trivial rfl).1] at hj; rw [(hs.a g_qc rfl j).2]; exact pf_qc j hj
  have pf_qh : ∀ j : Nat, (j : Int) < (h_628.2.1 ax 13).toInt → h_628.2.2 qh j ≠ none := by
    intro j hj; rw [(hs.o gx trivial rfl).1] at hj; rw [(hs.a g_qh rfl j).2]; exact pf_qh j hj
  have n_mw : h_628.2.1 mw = F_mw := (funext fun j => (hs.a g_mw rfl j).1).trans n_mw
  have n_mr : h_628.2.1 mr = F_mr := (funext fun j => (hs.a g_mr rfl j).1).trans n_mr
  have n_mp : h_628.2.1 mp = F_mp := (funext fun j => (hs.a g_mp rfl j).1).trans n_mp
  have n_mn : h_628.2.1 mn = F_mn := (funext fun j => (hs.a g_mn rfl j).1).trans n_mn
  have n_ml : h_628.2.1 ml = F_ml := (funext fun j => (hs.a g_ml rfl j).1).trans n_ml
  have n_mh : h_628.2.1 mh = F_mh := (funext fun j => (hs.a g_mh rfl j).1).trans n_mh
  have n_mt : h_628.2.1 mt = F_mt := (funext fun j => (hs.a g_mt rfl j).1).trans n_mt
  have gx := gx.S hs
  have gm := gm.S hs
  have g_qa := g_qa.S hs
  have g_qp := g_qp.S hs
  have g_qc := g_qc.S hs
  have g_qh := g_qh.S hs
  have g_qw := g_qw.S hs
  have g_ql := g_ql.S hs
  have g_mw := g_mw.S hs
  have g_mr := g_mr.S hs
  have g_mp := g_mp.S hs
  have g_mn := g_mn.S hs
  have g_ml := g_ml.S hs
  have g_mh := g_mh.S hs
  have g_mt := g_mt.S hs
  have fw_632 : h_628.2.1 qw 0 = w_632 := fw_632
  have bw_632 := hT.gi g_qw tt_8 (k := 0) rfl
  rw [fw_632] at bw_632
  have bw_632 : 0 ≤ w_632.toInt ∧ w_632.toInt ≤ 8 := bw_632
  refine lv_pop hx hb dL_law_1258 rfl ?_
  refine lv_aload_n hx hb dL_law_1259 rfl (lv_at hl 1 rfl) ?_
  obtain ⟨q_633, fq_633, gq_633⟩ := hx_rf hT gm tt_10 (k := 91) (u := 112) rfl
  obtain ⟨q_634, fq_634, gq_634⟩ := hx_rf hT gm tt_10 (k := 38) (u := 73) rfl
  obtain ⟨q_635, fq_635, gq_635⟩ := hx_rf hT gm tt_10 (k := 24) (u := 61) rfl
  obtain ⟨q_636, fq_636, gq_636⟩ := hx_rf hT gm tt_10 (k := 25) (u := 62) rfl
  obtain ⟨q_637, fq_637, gq_637⟩ := hx_rf hT gm tt_10 (k := 94) (u := 114) rfl
  obtain ⟨fv_638, efv_638⟩ : ∃ y : Int32, y = h_628.2.1 am 90 := ⟨_, rfl⟩
  have bfv_638 := hT.gi gm tt_10 (k := 90) rfl
  rw [← efv_638] at bfv_638
  have bfv_638 : 0 ≤ fv_638.toInt ∧ fv_638.toInt ≤ 8 := bfv_638
  have ffv_638 := efv_638.symm
  obtain ⟨fa_639, nfa_639⟩ : ∃ g : Nat → Int32, h_628.2.1 q_633 = g := ⟨_, rfl⟩
  obtain ⟨fa_640, nfa_640⟩ : ∃ g : Nat → Int32, h_628.2.1 q_634 = g := ⟨_, rfl⟩
  obtain ⟨fa_641, nfa_641⟩ : ∃ g : Nat → Int32, h_628.2.1 q_635 = g := ⟨_, rfl⟩
  obtain ⟨fa_642, nfa_642⟩ : ∃ g : Nat → Int32, h_628.2.1 q_636 = g := ⟨_, rfl⟩
  obtain ⟨fa_643, nfa_643⟩ : ∃ g : Nat → Int32, h_628.2.1 q_637 = g := ⟨_, rfl⟩
  refine hx_goi (hx_runV (As := []) (rest := []) ⟨hx, hb, hml, hown, hts⟩ hW gm tt_10 (T := TX10) (N := 98) rfl (t_X10_walk l dC dI dA L_627 h_628 H.size am hT gm q_633 gq_633 fq_633 q_634 gq_634 fq_634 q_635 gq_635 fq_635 q_636 gq_636 fq_636 q_637 gq_637 fq_637 fa_639 nfa_639 fa_640 nfa_640 fa_641 nfa_641 fa_642 nfa_642 fa_643 nfa_643 fv_638 ffv_638) (cwV 0 hts (hx_gV kw_1721 kw_1718 kw_1719 kw_1720 kw_103) rfl rfl rfl (by decide +kernel) ⟨Nat.le_of_ble_eq_true rfl, Nat.le_of_ble_eq_true rfl⟩) rfl hl.1 rfl (Nat.le_of_ble_eq_true rfl) dL_law_1260 ⟨(show CC + 0 + 0 ≤ 600000 from by omega), (show SS + 0 + 0 ≤ 7302250 from by omega)⟩) hW (fun r_646 L_644 h_645 H locs p_647 hW => ?_)
  obtain ⟨hr_648, hT, hs⟩ := p_647
  have hT : hx_T T_tb L_644 h_645 := hT
  have hs : hx_S T_tb [(10, 90), (10, 92), (113, 0), (114, 0)] L_627 h_628 L_644 h_645 := hs
  have f_qa := (hs.o gx trivial rfl).2.trans f_qa
  have f_qp := (hs.o gx trivial rfl).2.trans f_qp
  have f_qc := (hs.o gx trivial rfl).2.trans f_qc
  have f_qh := (hs.o gx trivial rfl).2.trans f_qh
  have f_qw := (hs.o gx trivial rfl).2.trans f_qw
  have f_ql := (hs.o g_qw trivial rfl).2.trans f_ql
  have f_m_now := (hs.o gm trivial rfl).1.trans f_m_now
  have f_m_persons := (hs.o gm trivial rfl).1.trans f_m_persons
  have f_m_acts := (hs.o gm trivial rfl).1.trans f_m_acts
  have f_m_claims := (hs.o gm trivial rfl).1.trans f_m_claims
  have f_m_heardMany := (hs.o gm trivial rfl).1.trans f_m_heardMany
  have f_x_now := (hs.o gx trivial rfl).1.trans f_x_now
  have f_x_personCount := (hs.o gx trivial rfl).1.trans f_x_personCount
  have f_mw := (hs.o gm trivial rfl).2.trans f_mw
  have f_mr := (hs.o gm trivial rfl).2.trans f_mr
  have f_mp := (hs.o gm trivial rfl).2.trans f_mp
  have f_mn := (hs.o gm trivial rfl).2.trans f_mn
  have f_ml := (hs.o gm trivial rfl).2.trans f_ml
  have f_mh := (hs.o gm trivial rfl).2.trans f_mh
  have f_mt := (hs.o gm trivial rfl).2.trans f_mt
  have fw_632 := (hs.o g_qw trivial rfl).1.trans fw_632
  have fq_633 := (hs.o gm trivial rfl).2.trans fq_633
  have fq_634 := (hs.o gm trivial rfl).2.trans fq_634
  have fq_635 := (hs.o gm trivial rfl).2.trans fq_635
  have fq_636 := (hs.o gm trivial rfl).2.trans fq_636
  have fq_637 := (hs.o gm trivial rfl).2.trans fq_637
  have pf_qa : ∀ j : Nat, (j : Int) < (h_645.2.1 ax 6).toInt → h_645.2.2 qa j ≠ none := by
    intro j hj; rw [(hs.o gx trivial rfl).1] at hj; rw [(hs.a g_qa rfl j).2]; exact pf_qa j hj
  have pf_qp : ∀ j : Nat, (j : Int) < (h_645.2.1 ax 8).toInt → h_645.2.2 qp j ≠ none := by
    intro j hj; rw [(hs.o gx trivial rfl).1] at hj; rw [(hs.a g_qp rfl j).2]; exact pf_qp j hj
  have pf_qc : ∀ j : Nat, (j : Int) < (h_645.2.1 ax 11).toInt → h_645.2.2 qc j ≠ none := by
    intro j hj; rw [(hs.o gx trivial rfl).1] at hj; rw [(hs.a g_qc rfl j).2]; exact pf_qc j hj
  have pf_qh : ∀ j : Nat, (j : Int) < (h_645.2.1 ax 13).toInt → h_645.2.2 qh j ≠ none := by
    intro j hj; rw [(hs.o gx trivial rfl).1] at hj; rw [(hs.a g_qh rfl j).2]; exact pf_qh j hj
  have n_mw : h_645.2.1 mw = F_mw := (funext fun j => (hs.a g_mw rfl j).1).trans n_mw
  have n_mr : h_645.2.1 mr = F_mr := (funext fun j => (hs.a g_mr rfl j).1).trans n_mr
  have n_mp : h_645.2.1 mp = F_mp := (funext fun j => (hs.a g_mp rfl j).1).trans n_mp
  have n_mn : h_645.2.1 mn = F_mn := (funext fun j => (hs.a g_mn rfl j).1).trans n_mn
  have n_ml : h_645.2.1 ml = F_ml := (funext fun j => (hs.a g_ml rfl j).1).trans n_ml
  have n_mh : h_645.2.1 mh = F_mh := (funext fun j => (hs.a g_mh rfl j).1).trans n_mh
  have n_mt : h_645.2.1 mt = F_mt := (funext fun j => (hs.a g_mt rfl j).1).trans n_mt
  have nfa_639 : h_645.2.1 q_633 = fa_639 := (funext fun j => (hs.a gq_633 rfl j).1).trans nfa_639
  have nfa_640 : h_645.2.1 q_634 = fa_640 := (funext fun j => (hs.a gq_634 rfl j).1).trans nfa_640
  have nfa_641 : h_645.2.1 q_635 = fa_641 := (funext fun j => (hs.a gq_635 rfl j).1).trans nfa_641
  have nfa_642 : h_645.2.1 q_636 = fa_642 := (funext fun j => (hs.a gq_636 rfl j).1).trans nfa_642
  have gx := gx.S hs
  have gm := gm.S hs
  have g_qa := g_qa.S hs
  have g_qp := g_qp.S hs
  have g_qc := g_qc.S hs
  have g_qh := g_qh.S hs
  have g_qw := g_qw.S hs
  have g_ql := g_ql.S hs
  have g_mw := g_mw.S hs
  have g_mr := g_mr.S hs
  have g_mp := g_mp.S hs
  have g_mn := g_mn.S hs
  have g_ml := g_ml.S hs
  have g_mh := g_mh.S hs
  have g_mt := g_mt.S hs
  have gq_633 := gq_633.S hs
  have gq_634 := gq_634.S hs
  have gq_635 := gq_635.S hs
  have gq_636 := gq_636.S hs
  have gq_637 := gq_637.S hs
  refine lv_pop hx hb dL_law_1263 rfl ?_
  refine lv_goto (tgt := 1379) hx hb dL_law_1264 (by decide) ?_
  have pfw : ∀ j : Nat, (j : Int) < (h_645.2.1 qw 0).toInt → h_645.2.2 ql j ≠ none := hx_pf1 fw_632 hr_631
  refine W.widen (k := CC + 3) (n := SS + 179) (by omega) (by omega) ?_
  exact kk L_644 h_645 H locs ls hW ⟨hT, gx, gm, ⟨f_x_now.trans f_m_now.symm, f_x_personCount.trans f_m_persons.symm, trivial⟩, ⟨hx_ob f_qa pf_qa, hx_ob f_qp pf_qp, hx_ob f_qc pf_qc, hx_ob f_qh pf_qh, (fun w q hw hq => by obtain rfl : qw = w := Option.some.inj (f_qw.symm.trans hw); obtain rfl : ql = q := Option.some.inj (f_ql.symm.trans hq); exact pfw)⟩, ⟨hx_ob f_mw (by rw [n_mw]; exact hwd), hx_ob f_mr (by rw [n_mr, f_m_acts]; exact hWK), hx_ob2 f_mp f_mn (by rw [n_mp, n_mn, f_m_acts]; exact hRP), hx_ob f_ml (by rw [n_ml, f_m_claims, f_m_acts]; exact hPL), hx_ob f_mh (by rw [n_mh, f_m_heardMany, f_m_claims]; exact hHC), hx_ob f_mt (by rw [n_mt]; exact (hx_TR_le hTR (by omega)))⟩⟩ hl

set_option maxHeartbeats 4000000 in
set_option maxRecDepth 100000 in
theorem law_case_27 {p : Program} {e : Env} {s : State} {m : MethodId} {below : List Frame} {meth : Method} {c : Code} (l : Launch) {b LN : Nat} {xs : Nat → Int32} (hx : p.tables.exec = Jvm.exec) (hb : c.code = code) (hr : meth.sig.returnType = ret) (hlocks : meth.locks = false) (hml : c.maxLocals = 4) (hown : s.vm.findClass "SmallCourtLaw" = some m.cls) (hts : ∀ w ∈ hx_all, w.before #[Value.ref b] s = true) (hX : va_X b LN xs s s.heap) (hbl : b < s.heap.size) (hbA : ¬ s.heap.size ≤ b) (hLN : LN ≤ 3584) (dC : Nat → ClassId) (dI : Nat → Nat → Nat) (dA : Nat → ClassId) (b0 : hx_z) (ax am : Nat) (T1 : Int) (hT0 : 0 ≤ T1) (hT1 : T1 ≤ 511) (i : Int32) (hi0 : 0 ≤ i.toInt) (hiL : i.toInt + 7 ≤ LN) (CC SS : Nat) (hCC : CC + 3 ≤ 600000) (hSS : SS + 179 ≤ 7302250) (L1 : List Nat) (hl1 : hx_h) (H : Heap) (locs : List Loc) (ls : Array Slot) (hW : hx_W T_tb (P_ty dA) (dC, dI) vwCl (fun q : Nat => s.heap.size ≤ q) s.heap L1 hl1 s H locs) (hZ : hx_Xt (fun q : Nat => s.heap.size ≤ q) b0 s) (hI : hx_IV T1 ax am L1 hl1) (hl : lv_has ls 4 [(3, .int i), (2, .ref am), (1, .ref ax), (0, .ref b)]) (kk : ∀ (L2 : List Nat) (h2 : hx_h) (H2 : Heap) (locs2 : List Loc) (ls2 : Array Slot), hx_W T_tb (P_ty dA) (dC, dI) vwCl (fun q : Nat => s.heap.size ≤ q) s.heap L2 h2 s H2 locs2 → hx_IV (T1 + 1) ax am L2 h2 → lv_has ls2 4 [(3, .int i), (2, .ref am), (1, .ref ax), (0, .ref b)] → W p l e room_1 s m #[Value.ref b] below meth c H2 locs2 (CC + 3) (SS + 179) (lw_Z below #[Value.ref b] s) (F0 m 1379 ls2 [])) : W p l e room_1 s m #[Value.ref b] below meth c H locs CC SS (lw_Z below #[Value.ref b] s) (F0 m 1267 ls []) := by
  obtain ⟨hT, gx, gm, ⟨he_nw, he_np, -⟩, ⟨ia, ip, ic, ih, il⟩, ⟨jw, jr, jp, jl, jh, jt⟩⟩ := hI
  obtain ⟨qa, f_qa, g_qa⟩ := hx_rf hT gx tt_9 (k := 5) (u := 43) rfl
  have pf_qa := ia qa f_qa
  obtain ⟨qp, f_qp, g_qp⟩ := hx_rf hT gx tt_9 (k := 7) (u := 44) rfl
  have pf_qp := ip qp f_qp
  obtain ⟨qc, f_qc, g_qc⟩ := hx_rf hT gx tt_9 (k := 10) (u := 45) rfl
  have pf_qc := ic qc f_qc
  obtain ⟨qh, f_qh, g_qh⟩ := hx_rf hT gx tt_9 (k := 12) (u := 46) rfl
  have pf_qh := ih qh f_qh
  obtain ⟨qw, f_qw, g_qw⟩ := hx_rf hT gx tt_9 (k := 19) (u := 8) rfl
  obtain ⟨ql, f_ql, g_ql⟩ := hx_rf hT g_qw tt_8 (k := 3) (u := 40) rfl
  have pf_ql := il qw ql f_qw f_ql
  obtain ⟨nw, f_m_now⟩ : ∃ y : Int32, hl1.2.1 am 0 = y := ⟨_, rfl⟩
  have b_nw := hT.gi gm tt_10 (k := 0) rfl
  rw [f_m_now] at b_nw
  have b_nw : 0 ≤ nw.toInt ∧ nw.toInt ≤ 7999 := b_nw
  obtain ⟨np, f_m_persons⟩ : ∃ y : Int32, hl1.2.1 am 20 = y := ⟨_, rfl⟩
  have b_np := hT.gi gm tt_10 (k := 20) rfl
  rw [f_m_persons] at b_np
  have b_np : 0 ≤ np.toInt ∧ np.toInt ≤ 40 := b_np
  obtain ⟨a0, f_m_acts⟩ : ∃ y : Int32, hl1.2.1 am 1 = y := ⟨_, rfl⟩
  have b_a0 := hT.gi gm tt_10 (k := 1) rfl
  rw [f_m_acts] at b_a0
  have b_a0 : 0 ≤ a0.toInt ∧ a0.toInt ≤ 8 := b_a0
  obtain ⟨c0, f_m_claims⟩ : ∃ y : Int32, hl1.2.1 am 36 = y := ⟨_, rfl⟩
  have b_c0 := hT.gi gm tt_10 (k := 36) rfl
  rw [f_m_claims] at b_c0
  have b_c0 : 0 ≤ c0.toInt ∧ c0.toInt ≤ 100 := b_c0
  obtain ⟨m0, f_m_heardMany⟩ : ∃ y : Int32, hl1.2.1 am 57 = y := ⟨_, rfl⟩
  have b_m0 := hT.gi gm tt_10 (k := 57) rfl
  rw [f_m_heardMany] at b_m0
  have b_m0 : 0 ≤ m0.toInt ∧ m0.toInt ≤ 100 := b_m0
  have f_x_now : hl1.2.1 ax 2 = nw := he_nw.trans f_m_now
  have f_x_personCount : hl1.2.1 ax 8 = np := he_np.trans f_m_persons
  obtain ⟨mw, f_mw, g_mw⟩ := hx_rf hT gm tt_10 (k := 19) (u := 57) rfl
  obtain ⟨F_mw, n_mw⟩ : ∃ g : Nat → Int32, hl1.2.1 mw = g := ⟨_, rfl⟩
  obtain ⟨mr, f_mr, g_mr⟩ := hx_rf hT gm tt_10 (k := 3) (u := 50) rfl
  obtain ⟨F_mr, n_mr⟩ : ∃ g : Nat → Int32, hl1.2.1 mr = g := ⟨_, rfl⟩
  obtain ⟨mp, f_mp, g_mp⟩ := hx_rf hT gm tt_10 (k := 5) (u := 52) rfl
  obtain ⟨F_mp, n_mp⟩ : ∃ g : Nat → Int32, hl1.2.1 mp = g := ⟨_, rfl⟩
  obtain ⟨mn, f_mn, g_mn⟩ := hx_rf hT gm tt_10 (k := 4) (u := 51) rfl
  obtain ⟨F_mn, n_mn⟩ : ∃ g : Nat → Int32, hl1.2.1 mn = g := ⟨_, rfl⟩
  obtain ⟨ml, f_ml, g_ml⟩ := hx_rf hT gm tt_10 (k := 44) (u := 79) rfl
  obtain ⟨F_ml, n_ml⟩ : ∃ g : Nat → Int32, hl1.2.1 ml = g := ⟨_, rfl⟩
  obtain ⟨mh, f_mh, g_mh⟩ := hx_rf hT gm tt_10 (k := 47) (u := 82) rfl
  obtain ⟨F_mh, n_mh⟩ : ∃ g : Nat → Int32, hl1.2.1 mh = g := ⟨_, rfl⟩
  obtain ⟨mt, f_mt, g_mt⟩ := hx_rf hT gm tt_10 (k := 45) (u := 80) rfl
  obtain ⟨F_mt, n_mt⟩ : ∃ g : Nat → Int32, hl1.2.1 mt = g := ⟨_, rfl⟩
  have hwd := jw mw f_mw; rw [n_mw] at hwd
  have hWK := jr mr f_mr; rw [n_mr, f_m_acts] at hWK
  have hRP := jp mp mn f_mp f_mn; rw [n_mp, n_mn, f_m_acts] at hRP
  have hPL := jl ml f_ml; rw [n_ml, f_m_claims, f_m_acts] at hPL
  have hHC := jh mh f_mh; rw [n_mh, f_m_heardMany, f_m_claims] at hHC
  have hTR := jt mt f_mt; rw [n_mt] at hTR
  refine lv_aload_n hx hb dL_law_1267 rfl (lv_at hl 2 rfl) ?_
  refine lv_aload_n hx hb dL_law_1268 rfl (lv_at hl 3 rfl) ?_
  refine lv_iload_n hx hb dL_law_1269 rfl (lv_at hl 0 rfl) ?_
  refine lv_iconst (v := 1) hx hb dL_law_1270 (by decide) ?_
  refine lv_iadd hx hb dL_law_1271 ?_
  have rg_649 := i32_r i
  refine lv_topi (fun x_650 ex_650 => ?_)
  have zx_650 : x_650.toInt = i.toInt + 1 := by rw [ex_650]; exact i32_add rfl (by decide) (by omega) (by omega)
  refine va_sld hx hb hX hbl hbA hW.2.2.2.1 (vp_in_iff.mpr ⟨by omega, by omega⟩) dL_law_1272 ?_
  refine lv_topi (fun x_651 ex_651 => ?_)
  refine hx_goi (hx_runV (As := [.int x_651]) (rest := []) ⟨hx, hb, hml, hown, hts⟩ hW gx tt_9 (T := TX9) (N := 20) rfl (t_X9_walked l dC dI dA L1 hl1 H.size ax x_651 hT gx) (cwV 1 hts (hx_gV kw_1088 kw_1085 kw_1086 kw_1087 kw_94) rfl rfl rfl (by decide +kernel) ⟨Nat.le_of_ble_eq_true rfl, Nat.le_of_ble_eq_true rfl⟩) rfl hl.1 rfl (Nat.le_of_ble_eq_true rfl) dL_law_1273 ⟨(show CC + 0 ≤ 600000 from by omega), (show SS + 0 ≤ 7302250 from by omega)⟩) hW (fun r_654 L_652 h_653 H locs p_655 hW => ?_)
  obtain ⟨hr_656, hT, hs⟩ := p_655
  have hT : hx_T T_tb L_652 h_653 := hT
  have hs : hx_S T_tb [] L1 hl1 L_652 h_653 := hs
  have f_qa := (hs.o gx trivial rfl).2.trans f_qa
  have f_qp := (hs.o gx trivial rfl).2.trans f_qp
  have f_qc := (hs.o gx trivial rfl).2.trans f_qc
  have f_qh := (hs.o gx trivial rfl).2.trans f_qh
  have f_qw := (hs.o gx trivial rfl).2.trans f_qw
  have f_ql := (hs.o g_qw trivial rfl).2.trans f_ql
  have f_m_now := (hs.o gm trivial rfl).1.trans f_m_now
  have f_m_persons := (hs.o gm trivial rfl).1.trans f_m_persons
  have f_m_acts := (hs.o gm trivial rfl).1.trans f_m_acts
  have f_m_claims := (hs.o gm trivial rfl).1.trans f_m_claims
  have f_m_heardMany := (hs.o gm trivial rfl).1.trans f_m_heardMany
  have f_x_now := (hs.o gx trivial rfl).1.trans f_x_now
  have f_x_personCount := (hs.o gx trivial rfl).1.trans f_x_personCount
  have f_mw := (hs.o gm trivial rfl).2.trans f_mw
  have f_mr := (hs.o gm trivial rfl).2.trans f_mr
  have f_mp := (hs.o gm trivial rfl).2.trans f_mp
  have f_mn := (hs.o gm trivial rfl).2.trans f_mn
  have f_ml := (hs.o gm trivial rfl).2.trans f_ml
  have f_mh := (hs.o gm trivial rfl).2.trans f_mh
  have f_mt := (hs.o gm trivial rfl).2.trans f_mt
  have pf_qa : ∀ j : Nat, (j : Int) < (h_653.2.1 ax 6).toInt → h_653.2.2 qa j ≠ none := by
    intro j hj; rw [(hs.o gx trivial rfl).1] at hj; rw [(hs.a g_qa rfl j).2]; exact pf_qa j hj
  have pf_qp : ∀ j : Nat, (j : Int) < (h_653.2.1 ax 8).toInt → h_653.2.2 qp j ≠ none := by
    intro j hj; rw [(hs.o gx trivial rfl).1] at hj; rw [(hs.a g_qp rfl j).2]; exact pf_qp j hj
  have pf_qc : ∀ j : Nat, (j : Int) < (h_653.2.1 ax 11).toInt → h_653.2.2 qc j ≠ none := by
    intro j hj; rw [(hs.o gx trivial rfl).1] at hj; rw [(hs.a g_qc rfl j).2]; exact pf_qc j hj
  have pf_qh : ∀ j : Nat, (j : Int) < (h_653.2.1 ax 13).toInt → h_653.2.2 qh j ≠ none := by
    intro j hj; rw [(hs.o gx trivial rfl).1] at hj; rw [(hs.a g_qh rfl j).2]; exact pf_qh j hj
  have pf_ql : ∀ j : Nat, (j : Int) < (h_653.2.1 qw 0).toInt → h_653.2.2 ql j ≠ none := by
    intro j hj; rw [(hs.o g_qw trivial rfl).1] at hj; rw [(hs.a g_ql rfl j).2]; exact pf_ql j hj
  have n_mw : h_653.2.1 mw = F_mw := (funext fun j => (hs.a g_mw rfl j).1).trans n_mw
  have n_mr : h_653.2.1 mr = F_mr := (funext fun j => (hs.a g_mr rfl j).1).trans n_mr
  have n_mp : h_653.2.1 mp = F_mp := (funext fun j => (hs.a g_mp rfl j).1).trans n_mp
  have n_mn : h_653.2.1 mn = F_mn := (funext fun j => (hs.a g_mn rfl j).1).trans n_mn
  have n_ml : h_653.2.1 ml = F_ml := (funext fun j => (hs.a g_ml rfl j).1).trans n_ml
  have n_mh : h_653.2.1 mh = F_mh := (funext fun j => (hs.a g_mh rfl j).1).trans n_mh
  have n_mt : h_653.2.1 mt = F_mt := (funext fun j => (hs.a g_mt rfl j).1).trans n_mt
  have gx := gx.S hs
  have gm := gm.S hs
  have g_qa := g_qa.S hs
  have g_qp := g_qp.S hs
  have g_qc := g_qc.S hs
  have g_qh := g_qh.S hs
  have g_qw := g_qw.S hs
  have g_ql := g_ql.S hs
  have g_mw := g_mw.S hs
  have g_mr := g_mr.S hs
  have g_mp := g_mp.S hs
  have g_mn := g_mn.S hs
  have g_ml := g_ml.S hs
  have g_mh := g_mh.S hs
  have g_mt := g_mt.S hs
  refine lv_pop hx hb dL_law_1276 rfl ?_
  refine lv_aload_n hx hb dL_law_1277 rfl (lv_at hl 1 rfl) ?_
  refine lv_aload_n hx hb dL_law_1278 rfl (lv_at hl 3 rfl) ?_
  refine lv_iload_n hx hb dL_law_1279 rfl (lv_at hl 0 rfl) ?_
  refine lv_iconst (v := 1) hx hb dL_law_1280 (by decide) ?_
  refine lv_iadd hx hb dL_law_1281 ?_
  refine lv_topi (fun x_657 ex_657 => ?_)
  have zx_657 : x_657.toInt = i.toInt + 1 := by rw [ex_657]; exact i32_add rfl (by decide) (by omega) (by omega)
  obtain rfl : x_650 = x_657 := ex_650.trans ex_657.symm
  refine va_sld hx hb hX hbl hbA hW.2.2.2.1 (vp_in_iff.mpr ⟨by omega, by omega⟩) dL_law_1282 ?_
  refine lv_topi (fun x_658 ex_658 => ?_)
  obtain rfl : x_651 = x_658 := ex_651.trans ex_658.symm
  refine hx_goi (hx_runV (As := [.int x_651]) (rest := []) ⟨hx, hb, hml, hown, hts⟩ hW gm tt_10 (T := TX10) (N := 98) rfl (t_X10_walked l dC dI dA L_652 h_653 H.size am x_651 hT gm) (cwV 1 hts (hx_gV kw_1732 kw_1729 kw_1730 kw_1731 kw_103) rfl rfl rfl (by decide +kernel) ⟨Nat.le_of_ble_eq_true rfl, Nat.le_of_ble_eq_true rfl⟩) rfl hl.1 rfl (Nat.le_of_ble_eq_true rfl) dL_law_1283 ⟨(show CC + 0 + 0 ≤ 600000 from by omega), (show SS + 0 + 0 ≤ 7302250 from by omega)⟩) hW (fun r_661 L_659 h_660 H locs p_662 hW => ?_)
  obtain ⟨hr_663, hT, hs⟩ := p_662
  have hT : hx_T T_tb L_659 h_660 := hT
  have hs : hx_S T_tb [] L_652 h_653 L_659 h_660 := hs
  have f_qa := (hs.o gx trivial rfl).2.trans f_qa
  have f_qp := (hs.o gx trivial rfl).2.trans f_qp
  have f_qc := (hs.o gx trivial rfl).2.trans f_qc
  have f_qh := (hs.o gx trivial rfl).2.trans f_qh
  have f_qw := (hs.o gx trivial rfl).2.trans f_qw
  have f_ql := (hs.o g_qw trivial rfl).2.trans f_ql
  have f_m_now := (hs.o gm trivial rfl).1.trans f_m_now
  have f_m_persons := (hs.o gm trivial rfl).1.trans f_m_persons
  have f_m_acts := (hs.o gm trivial rfl).1.trans f_m_acts
  have f_m_claims := (hs.o gm trivial rfl).1.trans f_m_claims
  have f_m_heardMany := (hs.o gm trivial rfl).1.trans f_m_heardMany
  have f_x_now := (hs.o gx trivial rfl).1.trans f_x_now
  have f_x_personCount := (hs.o gx trivial rfl).1.trans f_x_personCount
  have f_mw := (hs.o gm trivial rfl).2.trans f_mw
  have f_mr := (hs.o gm trivial rfl).2.trans f_mr
  have f_mp := (hs.o gm trivial rfl).2.trans f_mp
  have f_mn := (hs.o gm trivial rfl).2.trans f_mn
  have f_ml := (hs.o gm trivial rfl).2.trans f_ml
  have f_mh := (hs.o gm trivial rfl).2.trans f_mh
  have f_mt := (hs.o gm trivial rfl).2.trans f_mt
  have pf_qa : ∀ j : Nat, (j : Int) < (h_660.2.1 ax 6).toInt → h_660.2.2 qa j ≠ none := by
    intro j hj; rw [(hs.o gx trivial rfl).1] at hj; rw [(hs.a g_qa rfl j).2]; exact pf_qa j hj
  have pf_qp : ∀ j : Nat, (j : Int) < (h_660.2.1 ax 8).toInt → h_660.2.2 qp j ≠ none := by
    intro j hj; rw [(hs.o gx trivial rfl).1] at hj; rw [(hs.a g_qp rfl j).2]; exact pf_qp j hj
  have pf_qc : ∀ j : Nat, (j : Int) < (h_660.2.1 ax 11).toInt → h_660.2.2 qc j ≠ none := by
    intro j hj; rw [(hs.o gx trivial rfl).1] at hj; rw [(hs.a g_qc rfl j).2]; exact pf_qc j hj
  have pf_qh : ∀ j : Nat, (j : Int) < (h_660.2.1 ax 13).toInt → h_660.2.2 qh j ≠ none := by
    intro j hj; rw [(hs.o gx trivial rfl).1] at hj; rw [(hs.a g_qh rfl j).2]; exact pf_qh j hj
  have pf_ql : ∀ j : Nat, (j : Int) < (h_660.2.1 qw 0).toInt → h_660.2.2 ql j ≠ none := by
    intro j hj; rw [(hs.o g_qw trivial rfl).1] at hj; rw [(hs.a g_ql rfl j).2]; exact pf_ql j hj
  have n_mw : h_660.2.1 mw = F_mw := (funext fun j => (hs.a g_mw rfl j).1).trans n_mw
  have n_mr : h_660.2.1 mr = F_mr := (funext fun j => (hs.a g_mr rfl j).1).trans n_mr
  have n_mp : h_660.2.1 mp = F_mp := (funext fun j => (hs.a g_mp rfl j).1).trans n_mp
  have n_mn : h_660.2.1 mn = F_mn := (funext fun j => (hs.a g_mn rfl j).1).trans n_mn
  have n_ml : h_660.2.1 ml = F_ml := (funext fun j => (hs.a g_ml rfl j).1).trans n_ml
  have n_mh : h_660.2.1 mh = F_mh := (funext fun j => (hs.a g_mh rfl j).1).trans n_mh
  have n_mt : h_660.2.1 mt = F_mt := (funext fun j => (hs.a g_mt rfl j).1).trans n_mt
  have gx := gx.S hs
  have gm := gm.S hs
  have g_qa := g_qa.S hs
  have g_qp := g_qp.S hs
  have g_qc := g_qc.S hs
  have g_qh := g_qh.S hs
  have g_qw := g_qw.S hs
  have g_ql := g_ql.S hs
  have g_mw := g_mw.S hs
  have g_mr := g_mr.S hs
  have g_mp := g_mp.S hs
  have g_mn := g_mn.S hs
  have g_ml := g_ml.S hs
  have g_mh := g_mh.S hs
  have g_mt := g_mt.S hs
  refine lv_pop hx hb dL_law_1286 rfl ?_
  refine lv_goto (tgt := 1379) hx hb dL_law_1287 (by decide) ?_
  refine W.widen (k := CC + 3) (n := SS + 179) (by omega) (by omega) ?_
  exact kk L_659 h_660 H locs ls hW ⟨hT, gx, gm, ⟨f_x_now.trans f_m_now.symm, f_x_personCount.trans f_m_persons.symm, trivial⟩, ⟨hx_ob f_qa pf_qa, hx_ob f_qp pf_qp, hx_ob f_qc pf_qc, hx_ob f_qh pf_qh, (fun w q hw hq => by obtain rfl : qw = w := Option.some.inj (f_qw.symm.trans hw); obtain rfl : ql = q := Option.some.inj (f_ql.symm.trans hq); exact pf_ql)⟩, ⟨hx_ob f_mw (by rw [n_mw]; exact hwd), hx_ob f_mr (by rw [n_mr, f_m_acts]; exact hWK), hx_ob2 f_mp f_mn (by rw [n_mp, n_mn, f_m_acts]; exact hRP), hx_ob f_ml (by rw [n_ml, f_m_claims, f_m_acts]; exact hPL), hx_ob f_mh (by rw [n_mh, f_m_heardMany, f_m_claims]; exact hHC), hx_ob f_mt (by rw [n_mt]; exact (hx_TR_le hTR (by omega)))⟩⟩ hl

set_option maxHeartbeats 4000000 in
set_option maxRecDepth 100000 in
theorem law_case_28 {p : Program} {e : Env} {s : State} {m : MethodId} {below : List Frame} {meth : Method} {c : Code} (l : Launch) {b LN : Nat} {xs : Nat → Int32} (hx : p.tables.exec = Jvm.exec) (hb : c.code = code) (hr : meth.sig.returnType = ret) (hlocks : meth.locks = false) (hml : c.maxLocals = 4) (hown : s.vm.findClass "SmallCourtLaw" = some m.cls) (hts : ∀ w ∈ hx_all, w.before #[Value.ref b] s = true) (hX : va_X b LN xs s s.heap) (hbl : b < s.heap.size) (hbA : ¬ s.heap.size ≤ b) (hLN : LN ≤ 3584) (dC : Nat → ClassId) (dI : Nat → Nat → Nat) (dA : Nat → ClassId) (b0 : hx_z) (ax am : Nat) (T1 : Int) (hT0 : 0 ≤ T1) (hT1 : T1 ≤ 511) (i : Int32) (hi0 : 0 ≤ i.toInt) (hiL : i.toInt + 7 ≤ LN) (CC SS : Nat) (hCC : CC + 3 ≤ 600000) (hSS : SS + 179 ≤ 7302250) (L1 : List Nat) (hl1 : hx_h) (H : Heap) (locs : List Loc) (ls : Array Slot) (hW : hx_W T_tb (P_ty dA) (dC, dI) vwCl (fun q : Nat => s.heap.size ≤ q) s.heap L1 hl1 s H locs) (hZ : hx_Xt (fun q : Nat => s.heap.size ≤ q) b0 s) (hI : hx_IV T1 ax am L1 hl1) (hl : lv_has ls 4 [(3, .int i), (2, .ref am), (1, .ref ax), (0, .ref b)]) (kk : ∀ (L2 : List Nat) (h2 : hx_h) (H2 : Heap) (locs2 : List Loc) (ls2 : Array Slot), hx_W T_tb (P_ty dA) (dC, dI) vwCl (fun q : Nat => s.heap.size ≤ q) s.heap L2 h2 s H2 locs2 → hx_IV (T1 + 1) ax am L2 h2 → lv_has ls2 4 [(3, .int i), (2, .ref am), (1, .ref ax), (0, .ref b)] → W p l e room_1 s m #[Value.ref b] below meth c H2 locs2 (CC + 3) (SS + 179) (lw_Z below #[Value.ref b] s) (F0 m 1379 ls2 [])) : W p l e room_1 s m #[Value.ref b] below meth c H locs CC SS (lw_Z below #[Value.ref b] s) (F0 m 1290 ls []) := by
  obtain ⟨hT, gx, gm, ⟨he_nw, he_np, -⟩, ⟨ia, ip, ic, ih, il⟩, ⟨jw, jr, jp, jl, jh, jt⟩⟩ := hI
  obtain ⟨qa, f_qa, g_qa⟩ := hx_rf hT gx tt_9 (k := 5) (u := 43) rfl
  have pf_qa := ia qa f_qa
  obtain ⟨qp, f_qp, g_qp⟩ := hx_rf hT gx tt_9 (k := 7) (u := 44) rfl
  have pf_qp := ip qp f_qp
  obtain ⟨qc, f_qc, g_qc⟩ := hx_rf hT gx tt_9 (k := 10) (u := 45) rfl
  have pf_qc := ic qc f_qc
  obtain ⟨qh, f_qh, g_qh⟩ := hx_rf hT gx tt_9 (k := 12) (u := 46) rfl
  have pf_qh := ih qh f_qh
  obtain ⟨qw, f_qw, g_qw⟩ := hx_rf hT gx tt_9 (k := 19) (u := 8) rfl
  obtain ⟨ql, f_ql, g_ql⟩ := hx_rf hT g_qw tt_8 (k := 3) (u := 40) rfl
  have pf_ql := il qw ql f_qw f_ql
  obtain ⟨nw, f_m_now⟩ : ∃ y : Int32, hl1.2.1 am 0 = y := ⟨_, rfl⟩
  have b_nw := hT.gi gm tt_10 (k := 0) rfl
  rw [f_m_now] at b_nw
  have b_nw : 0 ≤ nw.toInt ∧ nw.toInt ≤ 7999 := b_nw
  obtain ⟨np, f_m_persons⟩ : ∃ y : Int32, hl1.2.1 am 20 = y := ⟨_, rfl⟩
  have b_np := hT.gi gm tt_10 (k := 20) rfl
  rw [f_m_persons] at b_np
  have b_np : 0 ≤ np.toInt ∧ np.toInt ≤ 40 := b_np
  obtain ⟨a0, f_m_acts⟩ : ∃ y : Int32, hl1.2.1 am 1 = y := ⟨_, rfl⟩
  have b_a0 := hT.gi gm tt_10 (k := 1) rfl
  rw [f_m_acts] at b_a0
  have b_a0 : 0 ≤ a0.toInt ∧ a0.toInt ≤ 8 := b_a0
  obtain ⟨c0, f_m_claims⟩ : ∃ y : Int32, hl1.2.1 am 36 = y := ⟨_, rfl⟩
  have b_c0 := hT.gi gm tt_10 (k := 36) rfl
  rw [f_m_claims] at b_c0
  have b_c0 : 0 ≤ c0.toInt ∧ c0.toInt ≤ 100 := b_c0
  obtain ⟨m0, f_m_heardMany⟩ : ∃ y : Int32, hl1.2.1 am 57 = y := ⟨_, rfl⟩
  have b_m0 := hT.gi gm tt_10 (k := 57) rfl
  rw [f_m_heardMany] at b_m0
  have b_m0 : 0 ≤ m0.toInt ∧ m0.toInt ≤ 100 := b_m0
  have f_x_now : hl1.2.1 ax 2 = nw := he_nw.trans f_m_now
  have f_x_personCount : hl1.2.1 ax 8 = np := he_np.trans f_m_persons
  obtain ⟨mw, f_mw, g_mw⟩ := hx_rf hT gm tt_10 (k := 19) (u := 57) rfl
  obtain ⟨F_mw, n_mw⟩ : ∃ g : Nat → Int32, hl1.2.1 mw = g := ⟨_, rfl⟩
  obtain ⟨mr, f_mr, g_mr⟩ := hx_rf hT gm tt_10 (k := 3) (u := 50) rfl
  obtain ⟨F_mr, n_mr⟩ : ∃ g : Nat → Int32, hl1.2.1 mr = g := ⟨_, rfl⟩
  obtain ⟨mp, f_mp, g_mp⟩ := hx_rf hT gm tt_10 (k := 5) (u := 52) rfl
  obtain ⟨F_mp, n_mp⟩ : ∃ g : Nat → Int32, hl1.2.1 mp = g := ⟨_, rfl⟩
  obtain ⟨mn, f_mn, g_mn⟩ := hx_rf hT gm tt_10 (k := 4) (u := 51) rfl
  obtain ⟨F_mn, n_mn⟩ : ∃ g : Nat → Int32, hl1.2.1 mn = g := ⟨_, rfl⟩
  obtain ⟨ml, f_ml, g_ml⟩ := hx_rf hT gm tt_10 (k := 44) (u := 79) rfl
  obtain ⟨F_ml, n_ml⟩ : ∃ g : Nat → Int32, hl1.2.1 ml = g := ⟨_, rfl⟩
  obtain ⟨mh, f_mh, g_mh⟩ := hx_rf hT gm tt_10 (k := 47) (u := 82) rfl
  obtain ⟨F_mh, n_mh⟩ : ∃ g : Nat → Int32, hl1.2.1 mh = g := ⟨_, rfl⟩
  obtain ⟨mt, f_mt, g_mt⟩ := hx_rf hT gm tt_10 (k := 45) (u := 80) rfl
  obtain ⟨F_mt, n_mt⟩ : ∃ g : Nat → Int32, hl1.2.1 mt = g := ⟨_, rfl⟩
  have hwd := jw mw f_mw; rw [n_mw] at hwd
  have hWK := jr mr f_mr; rw [n_mr, f_m_acts] at hWK
  have hRP := jp mp mn f_mp f_mn; rw [n_mp, n_mn, f_m_acts] at hRP
  have hPL := jl ml f_ml; rw [n_ml, f_m_claims, f_m_acts] at hPL
  have hHC := jh mh f_mh; rw [n_mh, f_m_heardMany, f_m_claims] at hHC
  have hTR := jt mt f_mt; rw [n_mt] at hTR
  refine lv_aload_n hx hb dL_law_1290 rfl (lv_at hl 2 rfl) ?_
  refine lv_aload_n hx hb dL_law_1291 rfl (lv_at hl 3 rfl) ?_
  refine lv_iload_n hx hb dL_law_1292 rfl (lv_at hl 0 rfl) ?_
  refine lv_iconst (v := 1) hx hb dL_law_1293 (by decide) ?_
  refine lv_iadd hx hb dL_law_1294 ?_
  have rg_664 := i32_r i
  refine lv_topi (fun x_665 ex_665 => ?_)
  have zx_665 : x_665.toInt = i.toInt + 1 := by rw [ex_665]; exact i32_add rfl (by decide) (by omega) (by omega)
  refine va_sld hx hb hX hbl hbA hW.2.2.2.1 (vp_in_iff.mpr ⟨by omega, by omega⟩) dL_law_1295 ?_
  refine lv_topi (fun x_666 ex_666 => ?_)
  refine lv_aload_n hx hb dL_law_1296 rfl (lv_at hl 3 rfl) ?_
  refine lv_iload_n hx hb dL_law_1297 rfl (lv_at hl 0 rfl) ?_
  refine lv_iconst (v := 2) hx hb dL_law_1298 (by decide) ?_
  refine lv_iadd hx hb dL_law_1299 ?_
  refine lv_topi (fun x_667 ex_667 => ?_)
  have zx_667 : x_667.toInt = i.toInt + 2 := by rw [ex_667]; exact i32_add rfl (by decide) (by omega) (by omega)
  refine va_sld hx hb hX hbl hbA hW.2.2.2.1 (vp_in_iff.mpr ⟨by omega, by omega⟩) dL_law_1300 ?_
  refine lv_topi (fun x_668 ex_668 => ?_)
  refine hx_goi (hx_runV (As := [.int x_666, .int x_668]) (rest := []) ⟨hx, hb, hml, hown, hts⟩ hW gx tt_9 (T := TX9) (N := 20) rfl (t_X9_habit l dC dI dA L1 hl1 H.size ax x_666 x_668 hT gx qp g_qp f_qp qh g_qh f_qh pf_qp pf_qh) (cwV 2 hts (hx_gV kw_1092 kw_1089 kw_1090 kw_1091 kw_94) rfl rfl rfl (by decide +kernel) ⟨Nat.le_of_ble_eq_true rfl, Nat.le_of_ble_eq_true rfl⟩) rfl hl.1 rfl (Nat.le_of_ble_eq_true rfl) dL_law_1301 ⟨(show CC + 0 ≤ 600000 from by omega), (show SS + 0 ≤ 7302250 from by omega)⟩) hW (fun r_671 L_669 h_670 H locs p_672 hW => ?_)
  obtain ⟨hr_673, hT, hs⟩ := p_672
  have hT : hx_T T_tb L_669 h_670 := hT
  have hs : hx_S T_tb [] L1 hl1 L_669 h_670 := hs
  have f_qa := (hs.o gx trivial rfl).2.trans f_qa
  have f_qp := (hs.o gx trivial rfl).2.trans f_qp
  have f_qc := (hs.o gx trivial rfl).2.trans f_qc
  have f_qh := (hs.o gx trivial rfl).2.trans f_qh
  have f_qw := (hs.o gx trivial rfl).2.trans f_qw
  have f_ql := (hs.o g_qw trivial rfl).2.trans f_ql
  have f_m_now := (hs.o gm trivial rfl).1.trans f_m_now
  have f_m_persons := (hs.o gm trivial rfl).1.trans f_m_persons
  have f_m_acts := (hs.o gm trivial rfl).1.trans f_m_acts
  have f_m_claims := (hs.o gm trivial rfl).1.trans f_m_claims
  have f_m_heardMany := (hs.o gm trivial rfl).1.trans f_m_heardMany
  have f_x_now := (hs.o gx trivial rfl).1.trans f_x_now
  have f_x_personCount := (hs.o gx trivial rfl).1.trans f_x_personCount
  have f_mw := (hs.o gm trivial rfl).2.trans f_mw
  have f_mr := (hs.o gm trivial rfl).2.trans f_mr
  have f_mp := (hs.o gm trivial rfl).2.trans f_mp
  have f_mn := (hs.o gm trivial rfl).2.trans f_mn
  have f_ml := (hs.o gm trivial rfl).2.trans f_ml
  have f_mh := (hs.o gm trivial rfl).2.trans f_mh
  have f_mt := (hs.o gm trivial rfl).2.trans f_mt
  have pf_qa : ∀ j : Nat, (j : Int) < (h_670.2.1 ax 6).toInt → h_670.2.2 qa j ≠ none := by
    intro j hj; rw [(hs.o gx trivial rfl).1] at hj; rw [(hs.a g_qa rfl j).2]; exact pf_qa j hj
  have pf_qp : ∀ j : Nat, (j : Int) < (h_670.2.1 ax 8).toInt → h_670.2.2 qp j ≠ none := by
    intro j hj; rw [(hs.o gx trivial rfl).1] at hj; rw [(hs.a g_qp rfl j).2]; exact pf_qp j hj
  have pf_qc : ∀ j : Nat, (j : Int) < (h_670.2.1 ax 11).toInt → h_670.2.2 qc j ≠ none := by
    intro j hj; rw [(hs.o gx trivial rfl).1] at hj; rw [(hs.a g_qc rfl j).2]; exact pf_qc j hj
  have pf_qh : ∀ j : Nat, (j : Int) < (h_670.2.1 ax 13).toInt → h_670.2.2 qh j ≠ none := by
    intro j hj; rw [(hs.o gx trivial rfl).1] at hj; rw [(hs.a g_qh rfl j).2]; exact pf_qh j hj
  have pf_ql : ∀ j : Nat, (j : Int) < (h_670.2.1 qw 0).toInt → h_670.2.2 ql j ≠ none := by
    intro j hj; rw [(hs.o g_qw trivial rfl).1] at hj; rw [(hs.a g_ql rfl j).2]; exact pf_ql j hj
  have n_mw : h_670.2.1 mw = F_mw := (funext fun j => (hs.a g_mw rfl j).1).trans n_mw
  have n_mr : h_670.2.1 mr = F_mr := (funext fun j => (hs.a g_mr rfl j).1).trans n_mr
  have n_mp : h_670.2.1 mp = F_mp := (funext fun j => (hs.a g_mp rfl j).1).trans n_mp
  have n_mn : h_670.2.1 mn = F_mn := (funext fun j => (hs.a g_mn rfl j).1).trans n_mn
  have n_ml : h_670.2.1 ml = F_ml := (funext fun j => (hs.a g_ml rfl j).1).trans n_ml
  have n_mh : h_670.2.1 mh = F_mh := (funext fun j => (hs.a g_mh rfl j).1).trans n_mh
  have n_mt : h_670.2.1 mt = F_mt := (funext fun j => (hs.a g_mt rfl j).1).trans n_mt
  have gx := gx.S hs
  have gm := gm.S hs
  have g_qa := g_qa.S hs
  have g_qp := g_qp.S hs
  have g_qc := g_qc.S hs
  have g_qh := g_qh.S hs
  have g_qw := g_qw.S hs
  have g_ql := g_ql.S hs
  have g_mw := g_mw.S hs
  have g_mr := g_mr.S hs
  have g_mp := g_mp.S hs
  have g_mn := g_mn.S hs
  have g_ml := g_ml.S hs
  have g_mh := g_mh.S hs
  have g_mt := g_mt.S hs
  refine lv_pop hx hb dL_law_1304 rfl ?_
  refine lv_aload_n hx hb dL_law_1305 rfl (lv_at hl 1 rfl) ?_
  refine lv_aload_n hx hb dL_law_1306 rfl (lv_at hl 3 rfl) ?_
  refine lv_iload_n hx hb dL_law_1307 rfl (lv_at hl 0 rfl) ?_
  refine lv_iconst (v := 1) hx hb dL_law_1308 (by decide) ?_
  refine lv_iadd hx hb dL_law_1309 ?_
  refine lv_topi (fun x_674 ex_674 => ?_)
  have zx_674 : x_674.toInt = i.toInt + 1 := by rw [ex_674]; exact i32_add rfl (by decide) (by omega) (by omega)
  obtain rfl : x_665 = x_674 := ex_665.trans ex_674.symm
  refine va_sld hx hb hX hbl hbA hW.2.2.2.1 (vp_in_iff.mpr ⟨by omega, by omega⟩) dL_law_1310 ?_
  refine lv_topi (fun x_675 ex_675 => ?_)
  obtain rfl : x_666 = x_675 := ex_666.trans ex_675.symm
  refine lv_aload_n hx hb dL_law_1311 rfl (lv_at hl 3 rfl) ?_
  refine lv_iload_n hx hb dL_law_1312 rfl (lv_at hl 0 rfl) ?_
  refine lv_iconst (v := 2) hx hb dL_law_1313 (by decide) ?_
  refine lv_iadd hx hb dL_law_1314 ?_
  refine lv_topi (fun x_676 ex_676 => ?_)
  have zx_676 : x_676.toInt = i.toInt + 2 := by rw [ex_676]; exact i32_add rfl (by decide) (by omega) (by omega)
  obtain rfl : x_667 = x_676 := ex_667.trans ex_676.symm
  refine va_sld hx hb hX hbl hbA hW.2.2.2.1 (vp_in_iff.mpr ⟨by omega, by omega⟩) dL_law_1315 ?_
  refine lv_topi (fun x_677 ex_677 => ?_)
  obtain rfl : x_668 = x_677 := ex_668.trans ex_677.symm
  refine hx_goi (hx_runV (As := [.int x_666, .int x_668]) (rest := []) ⟨hx, hb, hml, hown, hts⟩ hW gm tt_10 (T := TX10) (N := 98) rfl (t_X10_habit l dC dI dA L_669 h_670 H.size am x_666 x_668 hT gm) (cwV 2 hts (hx_gV kw_1736 kw_1733 kw_1734 kw_1735 kw_103) rfl rfl rfl (by decide +kernel) ⟨Nat.le_of_ble_eq_true rfl, Nat.le_of_ble_eq_true rfl⟩) rfl hl.1 rfl (Nat.le_of_ble_eq_true rfl) dL_law_1316 ⟨(show CC + 0 + 0 ≤ 600000 from by omega), (show SS + 0 + 0 ≤ 7302250 from by omega)⟩) hW (fun r_680 L_678 h_679 H locs p_681 hW => ?_)
  obtain ⟨hr_682, hT, hs⟩ := p_681
  have hT : hx_T T_tb L_678 h_679 := hT
  have hs : hx_S T_tb [(10, 95), (10, 96), (115, 0)] L_669 h_670 L_678 h_679 := hs
  have f_qa := (hs.o gx trivial rfl).2.trans f_qa
  have f_qp := (hs.o gx trivial rfl).2.trans f_qp
  have f_qc := (hs.o gx trivial rfl).2.trans f_qc
  have f_qh := (hs.o gx trivial rfl).2.trans f_qh
  have f_qw := (hs.o gx trivial rfl).2.trans f_qw
  have f_ql := (hs.o g_qw trivial rfl).2.trans f_ql
  have f_m_now := (hs.o gm trivial rfl).1.trans f_m_now
  have f_m_persons := (hs.o gm trivial rfl).1.trans f_m_persons
  have f_m_acts := (hs.o gm trivial rfl).1.trans f_m_acts
  have f_m_claims := (hs.o gm trivial rfl).1.trans f_m_claims
  have f_m_heardMany := (hs.o gm trivial rfl).1.trans f_m_heardMany
  have f_x_now := (hs.o gx trivial rfl).1.trans f_x_now
  have f_x_personCount := (hs.o gx trivial rfl).1.trans f_x_personCount
  have f_mw := (hs.o gm trivial rfl).2.trans f_mw
  have f_mr := (hs.o gm trivial rfl).2.trans f_mr
  have f_mp := (hs.o gm trivial rfl).2.trans f_mp
  have f_mn := (hs.o gm trivial rfl).2.trans f_mn
  have f_ml := (hs.o gm trivial rfl).2.trans f_ml
  have f_mh := (hs.o gm trivial rfl).2.trans f_mh
  have f_mt := (hs.o gm trivial rfl).2.trans f_mt
  have pf_qa : ∀ j : Nat, (j : Int) < (h_679.2.1 ax 6).toInt → h_679.2.2 qa j ≠ none := by
    intro j hj; rw [(hs.o gx trivial rfl).1] at hj; rw [(hs.a g_qa rfl j).2]; exact pf_qa j hj
  have pf_qp : ∀ j : Nat, (j : Int) < (h_679.2.1 ax 8).toInt → h_679.2.2 qp j ≠ none := by
    intro j hj; rw [(hs.o gx trivial rfl).1] at hj; rw [(hs.a g_qp rfl j).2]; exact pf_qp j hj
  have pf_qc : ∀ j : Nat, (j : Int) < (h_679.2.1 ax 11).toInt → h_679.2.2 qc j ≠ none := by
    intro j hj; rw [(hs.o gx trivial rfl).1] at hj; rw [(hs.a g_qc rfl j).2]; exact pf_qc j hj
  have pf_qh : ∀ j : Nat, (j : Int) < (h_679.2.1 ax 13).toInt → h_679.2.2 qh j ≠ none := by
    intro j hj; rw [(hs.o gx trivial rfl).1] at hj; rw [(hs.a g_qh rfl j).2]; exact pf_qh j hj
  have pf_ql : ∀ j : Nat, (j : Int) < (h_679.2.1 qw 0).toInt → h_679.2.2 ql j ≠ none := by
    intro j hj; rw [(hs.o g_qw trivial rfl).1] at hj; rw [(hs.a g_ql rfl j).2]; exact pf_ql j hj
  have n_mw : h_679.2.1 mw = F_mw := (funext fun j => (hs.a g_mw rfl j).1).trans n_mw
  have n_mr : h_679.2.1 mr = F_mr := (funext fun j => (hs.a g_mr rfl j).1).trans n_mr
  have n_mp : h_679.2.1 mp = F_mp := (funext fun j => (hs.a g_mp rfl j).1).trans n_mp
  have n_mn : h_679.2.1 mn = F_mn := (funext fun j => (hs.a g_mn rfl j).1).trans n_mn
  have n_ml : h_679.2.1 ml = F_ml := (funext fun j => (hs.a g_ml rfl j).1).trans n_ml
  have n_mh : h_679.2.1 mh = F_mh := (funext fun j => (hs.a g_mh rfl j).1).trans n_mh
  have n_mt : h_679.2.1 mt = F_mt := (funext fun j => (hs.a g_mt rfl j).1).trans n_mt
  have gx := gx.S hs
  have gm := gm.S hs
  have g_qa := g_qa.S hs
  have g_qp := g_qp.S hs
  have g_qc := g_qc.S hs
  have g_qh := g_qh.S hs
  have g_qw := g_qw.S hs
  have g_ql := g_ql.S hs
  have g_mw := g_mw.S hs
  have g_mr := g_mr.S hs
  have g_mp := g_mp.S hs
  have g_mn := g_mn.S hs
  have g_ml := g_ml.S hs
  have g_mh := g_mh.S hs
  have g_mt := g_mt.S hs
  refine lv_pop hx hb dL_law_1319 rfl ?_
  refine lv_goto (tgt := 1379) hx hb dL_law_1320 (by decide) ?_
  refine W.widen (k := CC + 3) (n := SS + 179) (by omega) (by omega) ?_
  exact kk L_678 h_679 H locs ls hW ⟨hT, gx, gm, ⟨f_x_now.trans f_m_now.symm, f_x_personCount.trans f_m_persons.symm, trivial⟩, ⟨hx_ob f_qa pf_qa, hx_ob f_qp pf_qp, hx_ob f_qc pf_qc, hx_ob f_qh pf_qh, (fun w q hw hq => by obtain rfl : qw = w := Option.some.inj (f_qw.symm.trans hw); obtain rfl : ql = q := Option.some.inj (f_ql.symm.trans hq); exact pf_ql)⟩, ⟨hx_ob f_mw (by rw [n_mw]; exact hwd), hx_ob f_mr (by rw [n_mr, f_m_acts]; exact hWK), hx_ob2 f_mp f_mn (by rw [n_mp, n_mn, f_m_acts]; exact hRP), hx_ob f_ml (by rw [n_ml, f_m_claims, f_m_acts]; exact hPL), hx_ob f_mh (by rw [n_mh, f_m_heardMany, f_m_claims]; exact hHC), hx_ob f_mt (by rw [n_mt]; exact (hx_TR_le hTR (by omega)))⟩⟩ hl

set_option maxHeartbeats 4000000 in
set_option maxRecDepth 100000 in
theorem law_case_29 {p : Program} {e : Env} {s : State} {m : MethodId} {below : List Frame} {meth : Method} {c : Code} (l : Launch) {b LN : Nat} {xs : Nat → Int32} (hx : p.tables.exec = Jvm.exec) (hb : c.code = code) (hr : meth.sig.returnType = ret) (hlocks : meth.locks = false) (hml : c.maxLocals = 4) (hown : s.vm.findClass "SmallCourtLaw" = some m.cls) (hts : ∀ w ∈ hx_all, w.before #[Value.ref b] s = true) (hX : va_X b LN xs s s.heap) (hbl : b < s.heap.size) (hbA : ¬ s.heap.size ≤ b) (hLN : LN ≤ 3584) (dC : Nat → ClassId) (dI : Nat → Nat → Nat) (dA : Nat → ClassId) (b0 : hx_z) (ax am : Nat) (T1 : Int) (hT0 : 0 ≤ T1) (hT1 : T1 ≤ 511) (i : Int32) (hi0 : 0 ≤ i.toInt) (hiL : i.toInt + 7 ≤ LN) (CC SS : Nat) (hCC : CC + 3 ≤ 600000) (hSS : SS + 179 ≤ 7302250) (L1 : List Nat) (hl1 : hx_h) (H : Heap) (locs : List Loc) (ls : Array Slot) (hW : hx_W T_tb (P_ty dA) (dC, dI) vwCl (fun q : Nat => s.heap.size ≤ q) s.heap L1 hl1 s H locs) (hZ : hx_Xt (fun q : Nat => s.heap.size ≤ q) b0 s) (hI : hx_IV T1 ax am L1 hl1) (hl : lv_has ls 4 [(3, .int i), (2, .ref am), (1, .ref ax), (0, .ref b)]) (kk : ∀ (L2 : List Nat) (h2 : hx_h) (H2 : Heap) (locs2 : List Loc) (ls2 : Array Slot), hx_W T_tb (P_ty dA) (dC, dI) vwCl (fun q : Nat => s.heap.size ≤ q) s.heap L2 h2 s H2 locs2 → hx_IV (T1 + 1) ax am L2 h2 → lv_has ls2 4 [(3, .int i), (2, .ref am), (1, .ref ax), (0, .ref b)] → W p l e room_1 s m #[Value.ref b] below meth c H2 locs2 (CC + 3) (SS + 179) (lw_Z below #[Value.ref b] s) (F0 m 1379 ls2 [])) : W p l e room_1 s m #[Value.ref b] below meth c H locs CC SS (lw_Z below #[Value.ref b] s) (F0 m 1323 ls []) := by
  obtain ⟨hT, gx, gm, ⟨he_nw, he_np, -⟩, ⟨ia, ip, ic, ih, il⟩, ⟨jw, jr, jp, jl, jh, jt⟩⟩ := hI
  obtain ⟨qa, f_qa, g_qa⟩ := hx_rf hT gx tt_9 (k := 5) (u := 43) rfl
  have pf_qa := ia qa f_qa
  obtain ⟨qp, f_qp, g_qp⟩ := hx_rf hT gx tt_9 (k := 7) (u := 44) rfl
  have pf_qp := ip qp f_qp
  obtain ⟨qc, f_qc, g_qc⟩ := hx_rf hT gx tt_9 (k := 10) (u := 45) rfl
  have pf_qc := ic qc f_qc
  obtain ⟨qh, f_qh, g_qh⟩ := hx_rf hT gx tt_9 (k := 12) (u := 46) rfl
  have pf_qh := ih qh f_qh
  obtain ⟨qw, f_qw, g_qw⟩ := hx_rf hT gx tt_9 (k := 19) (u := 8) rfl
  obtain ⟨ql, f_ql, g_ql⟩ := hx_rf hT g_qw tt_8 (k := 3) (u := 40) rfl
  have pf_ql := il qw ql f_qw f_ql
  obtain ⟨nw, f_m_now⟩ : ∃ y : Int32, hl1.2.1 am 0 = y := ⟨_, rfl⟩
  have b_nw := hT.gi gm tt_10 (k := 0) rfl
  rw [f_m_now] at b_nw
  have b_nw : 0 ≤ nw.toInt ∧ nw.toInt ≤ 7999 := b_nw
  obtain ⟨np, f_m_persons⟩ : ∃ y : Int32, hl1.2.1 am 20 = y := ⟨_, rfl⟩
  have b_np := hT.gi gm tt_10 (k := 20) rfl
  rw [f_m_persons] at b_np
  have b_np : 0 ≤ np.toInt ∧ np.toInt ≤ 40 := b_np
  obtain ⟨a0, f_m_acts⟩ : ∃ y : Int32, hl1.2.1 am 1 = y := ⟨_, rfl⟩
  have b_a0 := hT.gi gm tt_10 (k := 1) rfl
  rw [f_m_acts] at b_a0
  have b_a0 : 0 ≤ a0.toInt ∧ a0.toInt ≤ 8 := b_a0
  obtain ⟨c0, f_m_claims⟩ : ∃ y : Int32, hl1.2.1 am 36 = y := ⟨_, rfl⟩
  have b_c0 := hT.gi gm tt_10 (k := 36) rfl
  rw [f_m_claims] at b_c0
  have b_c0 : 0 ≤ c0.toInt ∧ c0.toInt ≤ 100 := b_c0
  obtain ⟨m0, f_m_heardMany⟩ : ∃ y : Int32, hl1.2.1 am 57 = y := ⟨_, rfl⟩
  have b_m0 := hT.gi gm tt_10 (k := 57) rfl
  rw [f_m_heardMany] at b_m0
  have b_m0 : 0 ≤ m0.toInt ∧ m0.toInt ≤ 100 := b_m0
  have f_x_now : hl1.2.1 ax 2 = nw := he_nw.trans f_m_now
  have f_x_personCount : hl1.2.1 ax 8 = np := he_np.trans f_m_persons
  obtain ⟨mw, f_mw, g_mw⟩ := hx_rf hT gm tt_10 (k := 19) (u := 57) rfl
  obtain ⟨F_mw, n_mw⟩ : ∃ g : Nat → Int32, hl1.2.1 mw = g := ⟨_, rfl⟩
  obtain ⟨mr, f_mr, g_mr⟩ := hx_rf hT gm tt_10 (k := 3) (u := 50) rfl
  obtain ⟨F_mr, n_mr⟩ : ∃ g : Nat → Int32, hl1.2.1 mr = g := ⟨_, rfl⟩
  obtain ⟨mp, f_mp, g_mp⟩ := hx_rf hT gm tt_10 (k := 5) (u := 52) rfl
  obtain ⟨F_mp, n_mp⟩ : ∃ g : Nat → Int32, hl1.2.1 mp = g := ⟨_, rfl⟩
  obtain ⟨mn, f_mn, g_mn⟩ := hx_rf hT gm tt_10 (k := 4) (u := 51) rfl
  obtain ⟨F_mn, n_mn⟩ : ∃ g : Nat → Int32, hl1.2.1 mn = g := ⟨_, rfl⟩
  obtain ⟨ml, f_ml, g_ml⟩ := hx_rf hT gm tt_10 (k := 44) (u := 79) rfl
  obtain ⟨F_ml, n_ml⟩ : ∃ g : Nat → Int32, hl1.2.1 ml = g := ⟨_, rfl⟩
  obtain ⟨mh, f_mh, g_mh⟩ := hx_rf hT gm tt_10 (k := 47) (u := 82) rfl
  obtain ⟨F_mh, n_mh⟩ : ∃ g : Nat → Int32, hl1.2.1 mh = g := ⟨_, rfl⟩
  obtain ⟨mt, f_mt, g_mt⟩ := hx_rf hT gm tt_10 (k := 45) (u := 80) rfl
  obtain ⟨F_mt, n_mt⟩ : ∃ g : Nat → Int32, hl1.2.1 mt = g := ⟨_, rfl⟩
  have hwd := jw mw f_mw; rw [n_mw] at hwd
  have hWK := jr mr f_mr; rw [n_mr, f_m_acts] at hWK
  have hRP := jp mp mn f_mp f_mn; rw [n_mp, n_mn, f_m_acts] at hRP
  have hPL := jl ml f_ml; rw [n_ml, f_m_claims, f_m_acts] at hPL
  have hHC := jh mh f_mh; rw [n_mh, f_m_heardMany, f_m_claims] at hHC
  have hTR := jt mt f_mt; rw [n_mt] at hTR
  refine lv_aload_n hx hb dL_law_1323 rfl (lv_at hl 2 rfl) ?_
  refine lv_aload_n hx hb dL_law_1324 rfl (lv_at hl 3 rfl) ?_
  refine lv_iload_n hx hb dL_law_1325 rfl (lv_at hl 0 rfl) ?_
  refine lv_iconst (v := 1) hx hb dL_law_1326 (by decide) ?_
  refine lv_iadd hx hb dL_law_1327 ?_
  have rg_683 := i32_r i
  refine lv_topi (fun x_684 ex_684 => ?_)
  have zx_684 : x_684.toInt = i.toInt + 1 := by rw [ex_684]; exact i32_add rfl (by decide) (by omega) (by omega)
  refine va_sld hx hb hX hbl hbA hW.2.2.2.1 (vp_in_iff.mpr ⟨by omega, by omega⟩) dL_law_1328 ?_
  refine lv_topi (fun x_685 ex_685 => ?_)
  refine lv_aload_n hx hb dL_law_1329 rfl (lv_at hl 3 rfl) ?_
  refine lv_iload_n hx hb dL_law_1330 rfl (lv_at hl 0 rfl) ?_
  refine lv_iconst (v := 2) hx hb dL_law_1331 (by decide) ?_
  refine lv_iadd hx hb dL_law_1332 ?_
  refine lv_topi (fun x_686 ex_686 => ?_)
  have zx_686 : x_686.toInt = i.toInt + 2 := by rw [ex_686]; exact i32_add rfl (by decide) (by omega) (by omega)
  refine va_sld hx hb hX hbl hbA hW.2.2.2.1 (vp_in_iff.mpr ⟨by omega, by omega⟩) dL_law_1333 ?_
  refine lv_topi (fun x_687 ex_687 => ?_)
  refine hx_goi (hx_runV (As := [.int x_685, .int x_687]) (rest := []) ⟨hx, hb, hml, hown, hts⟩ hW gx tt_9 (T := TX9) (N := 20) rfl (t_X9_other l dC dI dA L1 hl1 H.size ax x_685 x_687 hT gx qa g_qa f_qa qh g_qh f_qh qc g_qc f_qc pf_qa pf_qh pf_qc) (cwV 2 hts (hx_gV kw_1104 kw_1101 kw_1102 kw_1103 kw_94) rfl rfl rfl (by decide +kernel) ⟨Nat.le_of_ble_eq_true rfl, Nat.le_of_ble_eq_true rfl⟩) rfl hl.1 rfl (Nat.le_of_ble_eq_true rfl) dL_law_1334 ⟨(show CC + 0 ≤ 600000 from by omega), (show SS + 0 ≤ 7302250 from by omega)⟩) hW (fun r_690 L_688 h_689 H locs p_691 hW => ?_)
  obtain ⟨hr_692, hT, hs⟩ := p_691
  have hT : hx_T T_tb L_688 h_689 := hT
  have hs : hx_S T_tb [] L1 hl1 L_688 h_689 := hs
  have f_qa := (hs.o gx trivial rfl).2.trans f_qa
  have f_qp := (hs.o gx trivial rfl).2.trans f_qp
  have f_qc := (hs.o gx trivial rfl).2.trans f_qc
  have f_qh := (hs.o gx trivial rfl).2.trans f_qh
  have f_qw := (hs.o gx trivial rfl).2.trans f_qw
  have f_ql := (hs.o g_qw trivial rfl).2.trans f_ql
  have f_m_now := (hs.o gm trivial rfl).1.trans f_m_now
  have f_m_persons := (hs.o gm trivial rfl).1.trans f_m_persons
  have f_m_acts := (hs.o gm trivial rfl).1.trans f_m_acts
  have f_m_claims := (hs.o gm trivial rfl).1.trans f_m_claims
  have f_m_heardMany := (hs.o gm trivial rfl).1.trans f_m_heardMany
  have f_x_now := (hs.o gx trivial rfl).1.trans f_x_now
  have f_x_personCount := (hs.o gx trivial rfl).1.trans f_x_personCount
  have f_mw := (hs.o gm trivial rfl).2.trans f_mw
  have f_mr := (hs.o gm trivial rfl).2.trans f_mr
  have f_mp := (hs.o gm trivial rfl).2.trans f_mp
  have f_mn := (hs.o gm trivial rfl).2.trans f_mn
  have f_ml := (hs.o gm trivial rfl).2.trans f_ml
  have f_mh := (hs.o gm trivial rfl).2.trans f_mh
  have f_mt := (hs.o gm trivial rfl).2.trans f_mt
  have pf_qa : ∀ j : Nat, (j : Int) < (h_689.2.1 ax 6).toInt → h_689.2.2 qa j ≠ none := by
    intro j hj; rw [(hs.o gx trivial rfl).1] at hj; rw [(hs.a g_qa rfl j).2]; exact pf_qa j hj
  have pf_qp : ∀ j : Nat, (j : Int) < (h_689.2.1 ax 8).toInt → h_689.2.2 qp j ≠ none := by
    intro j hj; rw [(hs.o gx trivial rfl).1] at hj; rw [(hs.a g_qp rfl j).2]; exact pf_qp j hj
  have pf_qc : ∀ j : Nat, (j : Int) < (h_689.2.1 ax 11).toInt → h_689.2.2 qc j ≠ none := by
    intro j hj; rw [(hs.o gx trivial rfl).1] at hj; rw [(hs.a g_qc rfl j).2]; exact pf_qc j hj
  have pf_qh : ∀ j : Nat, (j : Int) < (h_689.2.1 ax 13).toInt → h_689.2.2 qh j ≠ none := by
    intro j hj; rw [(hs.o gx trivial rfl).1] at hj; rw [(hs.a g_qh rfl j).2]; exact pf_qh j hj
  have pf_ql : ∀ j : Nat, (j : Int) < (h_689.2.1 qw 0).toInt → h_689.2.2 ql j ≠ none := by
    intro j hj; rw [(hs.o g_qw trivial rfl).1] at hj; rw [(hs.a g_ql rfl j).2]; exact pf_ql j hj
  have n_mw : h_689.2.1 mw = F_mw := (funext fun j => (hs.a g_mw rfl j).1).trans n_mw
  have n_mr : h_689.2.1 mr = F_mr := (funext fun j => (hs.a g_mr rfl j).1).trans n_mr
  have n_mp : h_689.2.1 mp = F_mp := (funext fun j => (hs.a g_mp rfl j).1).trans n_mp
  have n_mn : h_689.2.1 mn = F_mn := (funext fun j => (hs.a g_mn rfl j).1).trans n_mn
  have n_ml : h_689.2.1 ml = F_ml := (funext fun j => (hs.a g_ml rfl j).1).trans n_ml
  have n_mh : h_689.2.1 mh = F_mh := (funext fun j => (hs.a g_mh rfl j).1).trans n_mh
  have n_mt : h_689.2.1 mt = F_mt := (funext fun j => (hs.a g_mt rfl j).1).trans n_mt
  have gx := gx.S hs
  have gm := gm.S hs
  have g_qa := g_qa.S hs
  have g_qp := g_qp.S hs
  have g_qc := g_qc.S hs
  have g_qh := g_qh.S hs
  have g_qw := g_qw.S hs
  have g_ql := g_ql.S hs
  have g_mw := g_mw.S hs
  have g_mr := g_mr.S hs
  have g_mp := g_mp.S hs
  have g_mn := g_mn.S hs
  have g_ml := g_ml.S hs
  have g_mh := g_mh.S hs
  have g_mt := g_mt.S hs
  refine lv_pop hx hb dL_law_1337 rfl ?_
  refine lv_aload_n hx hb dL_law_1338 rfl (lv_at hl 1 rfl) ?_
  refine lv_aload_n hx hb dL_law_1339 rfl (lv_at hl 3 rfl) ?_
  refine lv_iload_n hx hb dL_law_1340 rfl (lv_at hl 0 rfl) ?_
  refine lv_iconst (v := 1) hx hb dL_law_1341 (by decide) ?_
  refine lv_iadd hx hb dL_law_1342 ?_
  refine lv_topi (fun x_693 ex_693 => ?_)
  have zx_693 : x_693.toInt = i.toInt + 1 := by rw [ex_693]; exact i32_add rfl (by decide) (by omega) (by omega)
  obtain rfl : x_684 = x_693 := ex_684.trans ex_693.symm
  refine va_sld hx hb hX hbl hbA hW.2.2.2.1 (vp_in_iff.mpr ⟨by omega, by omega⟩) dL_law_1343 ?_
  refine lv_topi (fun x_694 ex_694 => ?_)
  obtain rfl : x_685 = x_694 := ex_685.trans ex_694.symm
  refine lv_aload_n hx hb dL_law_1344 rfl (lv_at hl 3 rfl) ?_
  refine lv_iload_n hx hb dL_law_1345 rfl (lv_at hl 0 rfl) ?_
  refine lv_iconst (v := 2) hx hb dL_law_1346 (by decide) ?_
  refine lv_iadd hx hb dL_law_1347 ?_
  refine lv_topi (fun x_695 ex_695 => ?_)
  have zx_695 : x_695.toInt = i.toInt + 2 := by rw [ex_695]; exact i32_add rfl (by decide) (by omega) (by omega)
  obtain rfl : x_686 = x_695 := ex_686.trans ex_695.symm
  refine va_sld hx hb hX hbl hbA hW.2.2.2.1 (vp_in_iff.mpr ⟨by omega, by omega⟩) dL_law_1348 ?_
  refine lv_topi (fun x_696 ex_696 => ?_)
  obtain rfl : x_687 = x_696 := ex_687.trans ex_696.symm
  refine hx_goi (hx_runV (As := [.int x_685, .int x_687]) (rest := []) ⟨hx, hb, hml, hown, hts⟩ hW gm tt_10 (T := TX10) (N := 98) rfl (t_X10_other l dC dI dA L_688 h_689 H.size am x_685 x_687 hT gm mn g_mn f_mn mp g_mp f_mp F_mn n_mn F_mp n_mp a0 f_m_acts hRP) (cwV 2 hts (hx_gV kw_1749 kw_1746 kw_1747 kw_1748 kw_103) rfl rfl rfl (by decide +kernel) ⟨Nat.le_of_ble_eq_true rfl, Nat.le_of_ble_eq_true rfl⟩) rfl hl.1 rfl (Nat.le_of_ble_eq_true rfl) dL_law_1349 ⟨(show CC + 0 + 0 ≤ 600000 from by omega), (show SS + 0 + 0 ≤ 7302250 from by omega)⟩) hW (fun r_699 L_697 h_698 H locs p_700 hW => ?_)
  obtain ⟨hr_701, hT, hs⟩ := p_700
  have hT : hx_T T_tb L_697 h_698 := hT
  have hs : hx_S T_tb [(99, 0)] L_688 h_689 L_697 h_698 := hs
  have f_qa := (hs.o gx trivial rfl).2.trans f_qa
  have f_qp := (hs.o gx trivial rfl).2.trans f_qp
  have f_qc := (hs.o gx trivial rfl).2.trans f_qc
  have f_qh := (hs.o gx trivial rfl).2.trans f_qh
  have f_qw := (hs.o gx trivial rfl).2.trans f_qw
  have f_ql := (hs.o g_qw trivial rfl).2.trans f_ql
  have f_m_now := (hs.o gm trivial rfl).1.trans f_m_now
  have f_m_persons := (hs.o gm trivial rfl).1.trans f_m_persons
  have f_m_acts := (hs.o gm trivial rfl).1.trans f_m_acts
  have f_m_claims := (hs.o gm trivial rfl).1.trans f_m_claims
  have f_m_heardMany := (hs.o gm trivial rfl).1.trans f_m_heardMany
  have f_x_now := (hs.o gx trivial rfl).1.trans f_x_now
  have f_x_personCount := (hs.o gx trivial rfl).1.trans f_x_personCount
  have f_mw := (hs.o gm trivial rfl).2.trans f_mw
  have f_mr := (hs.o gm trivial rfl).2.trans f_mr
  have f_mp := (hs.o gm trivial rfl).2.trans f_mp
  have f_mn := (hs.o gm trivial rfl).2.trans f_mn
  have f_ml := (hs.o gm trivial rfl).2.trans f_ml
  have f_mh := (hs.o gm trivial rfl).2.trans f_mh
  have f_mt := (hs.o gm trivial rfl).2.trans f_mt
  have pf_qa : ∀ j : Nat, (j : Int) < (h_698.2.1 ax 6).toInt → h_698.2.2 qa j ≠ none := by
    intro j hj; rw [(hs.o gx trivial rfl).1] at hj; rw [(hs.a g_qa rfl j).2]; exact pf_qa j hj
  have pf_qp : ∀ j : Nat, (j : Int) < (h_698.2.1 ax 8).toInt → h_698.2.2 qp j ≠ none := by
    intro j hj; rw [(hs.o gx trivial rfl).1] at hj; rw [(hs.a g_qp rfl j).2]; exact pf_qp j hj
  have pf_qc : ∀ j : Nat, (j : Int) < (h_698.2.1 ax 11).toInt → h_698.2.2 qc j ≠ none := by
    intro j hj; rw [(hs.o gx trivial rfl).1] at hj; rw [(hs.a g_qc rfl j).2]; exact pf_qc j hj
  have pf_qh : ∀ j : Nat, (j : Int) < (h_698.2.1 ax 13).toInt → h_698.2.2 qh j ≠ none := by
    intro j hj; rw [(hs.o gx trivial rfl).1] at hj; rw [(hs.a g_qh rfl j).2]; exact pf_qh j hj
  have pf_ql : ∀ j : Nat, (j : Int) < (h_698.2.1 qw 0).toInt → h_698.2.2 ql j ≠ none := by
    intro j hj; rw [(hs.o g_qw trivial rfl).1] at hj; rw [(hs.a g_ql rfl j).2]; exact pf_ql j hj
  have n_mw : h_698.2.1 mw = F_mw := (funext fun j => (hs.a g_mw rfl j).1).trans n_mw
  have n_mr : h_698.2.1 mr = F_mr := (funext fun j => (hs.a g_mr rfl j).1).trans n_mr
  have n_mp : h_698.2.1 mp = F_mp := (funext fun j => (hs.a g_mp rfl j).1).trans n_mp
  have n_mn : h_698.2.1 mn = F_mn := (funext fun j => (hs.a g_mn rfl j).1).trans n_mn
  have n_ml : h_698.2.1 ml = F_ml := (funext fun j => (hs.a g_ml rfl j).1).trans n_ml
  have n_mh : h_698.2.1 mh = F_mh := (funext fun j => (hs.a g_mh rfl j).1).trans n_mh
  have n_mt : h_698.2.1 mt = F_mt := (funext fun j => (hs.a g_mt rfl j).1).trans n_mt
  have gx := gx.S hs
  have gm := gm.S hs
  have g_qa := g_qa.S hs
  have g_qp := g_qp.S hs
  have g_qc := g_qc.S hs
  have g_qh := g_qh.S hs
  have g_qw := g_qw.S hs
  have g_ql := g_ql.S hs
  have g_mw := g_mw.S hs
  have g_mr := g_mr.S hs
  have g_mp := g_mp.S hs
  have g_mn := g_mn.S hs
  have g_ml := g_ml.S hs
  have g_mh := g_mh.S hs
  have g_mt := g_mt.S hs
  refine lv_pop hx hb dL_law_1352 rfl ?_
  refine lv_goto (tgt := 1379) hx hb dL_law_1353 (by decide) ?_
  refine W.widen (k := CC + 3) (n := SS + 179) (by omega) (by omega) ?_
  exact kk L_697 h_698 H locs ls hW ⟨hT, gx, gm, ⟨f_x_now.trans f_m_now.symm, f_x_personCount.trans f_m_persons.symm, trivial⟩, ⟨hx_ob f_qa pf_qa, hx_ob f_qp pf_qp, hx_ob f_qc pf_qc, hx_ob f_qh pf_qh, (fun w q hw hq => by obtain rfl : qw = w := Option.some.inj (f_qw.symm.trans hw); obtain rfl : ql = q := Option.some.inj (f_ql.symm.trans hq); exact pf_ql)⟩, ⟨hx_ob f_mw (by rw [n_mw]; exact hwd), hx_ob f_mr (by rw [n_mr, f_m_acts]; exact hWK), hx_ob2 f_mp f_mn (by rw [n_mp, n_mn, f_m_acts]; exact hRP), hx_ob f_ml (by rw [n_ml, f_m_claims, f_m_acts]; exact hPL), hx_ob f_mh (by rw [n_mh, f_m_heardMany, f_m_claims]; exact hHC), hx_ob f_mt (by rw [n_mt]; exact (hx_TR_le hTR (by omega)))⟩⟩ hl

set_option maxHeartbeats 4000000 in
set_option maxRecDepth 100000 in
theorem law_case_30 {p : Program} {e : Env} {s : State} {m : MethodId} {below : List Frame} {meth : Method} {c : Code} (l : Launch) {b LN : Nat} {xs : Nat → Int32} (hx : p.tables.exec = Jvm.exec) (hb : c.code = code) (hr : meth.sig.returnType = ret) (hlocks : meth.locks = false) (hml : c.maxLocals = 4) (hown : s.vm.findClass "SmallCourtLaw" = some m.cls) (hts : ∀ w ∈ hx_all, w.before #[Value.ref b] s = true) (hX : va_X b LN xs s s.heap) (hbl : b < s.heap.size) (hbA : ¬ s.heap.size ≤ b) (hLN : LN ≤ 3584) (dC : Nat → ClassId) (dI : Nat → Nat → Nat) (dA : Nat → ClassId) (b0 : hx_z) (ax am : Nat) (T1 : Int) (hT0 : 0 ≤ T1) (hT1 : T1 ≤ 511) (i : Int32) (hi0 : 0 ≤ i.toInt) (hiL : i.toInt + 7 ≤ LN) (CC SS : Nat) (hCC : CC + 3 ≤ 600000) (hSS : SS + 179 ≤ 7302250) (L1 : List Nat) (hl1 : hx_h) (H : Heap) (locs : List Loc) (ls : Array Slot) (hW : hx_W T_tb (P_ty dA) (dC, dI) vwCl (fun q : Nat => s.heap.size ≤ q) s.heap L1 hl1 s H locs) (hZ : hx_Xt (fun q : Nat => s.heap.size ≤ q) b0 s) (hI : hx_IV T1 ax am L1 hl1) (hl : lv_has ls 4 [(3, .int i), (2, .ref am), (1, .ref ax), (0, .ref b)]) (kk : ∀ (L2 : List Nat) (h2 : hx_h) (H2 : Heap) (locs2 : List Loc) (ls2 : Array Slot), hx_W T_tb (P_ty dA) (dC, dI) vwCl (fun q : Nat => s.heap.size ≤ q) s.heap L2 h2 s H2 locs2 → hx_IV (T1 + 1) ax am L2 h2 → lv_has ls2 4 [(3, .int i), (2, .ref am), (1, .ref ax), (0, .ref b)] → W p l e room_1 s m #[Value.ref b] below meth c H2 locs2 (CC + 3) (SS + 179) (lw_Z below #[Value.ref b] s) (F0 m 1379 ls2 [])) : W p l e room_1 s m #[Value.ref b] below meth c H locs CC SS (lw_Z below #[Value.ref b] s) (F0 m 1356 ls []) := by
  obtain ⟨hT, gx, gm, ⟨he_nw, he_np, -⟩, ⟨ia, ip, ic, ih, il⟩, ⟨jw, jr, jp, jl, jh, jt⟩⟩ := hI
  obtain ⟨qa, f_qa, g_qa⟩ := hx_rf hT gx tt_9 (k := 5) (u := 43) rfl
  have pf_qa := ia qa f_qa
  obtain ⟨qp, f_qp, g_qp⟩ := hx_rf hT gx tt_9 (k := 7) (u := 44) rfl
  have pf_qp := ip qp f_qp
  obtain ⟨qc, f_qc, g_qc⟩ := hx_rf hT gx tt_9 (k := 10) (u := 45) rfl
  have pf_qc := ic qc f_qc
  obtain ⟨qh, f_qh, g_qh⟩ := hx_rf hT gx tt_9 (k := 12) (u := 46) rfl
  have pf_qh := ih qh f_qh
  obtain ⟨qw, f_qw, g_qw⟩ := hx_rf hT gx tt_9 (k := 19) (u := 8) rfl
  obtain ⟨ql, f_ql, g_ql⟩ := hx_rf hT g_qw tt_8 (k := 3) (u := 40) rfl
  have pf_ql := il qw ql f_qw f_ql
  obtain ⟨nw, f_m_now⟩ : ∃ y : Int32, hl1.2.1 am 0 = y := ⟨_, rfl⟩
  have b_nw := hT.gi gm tt_10 (k := 0) rfl
  rw [f_m_now] at b_nw
  have b_nw : 0 ≤ nw.toInt ∧ nw.toInt ≤ 7999 := b_nw
  obtain ⟨np, f_m_persons⟩ : ∃ y : Int32, hl1.2.1 am 20 = y := ⟨_, rfl⟩
  have b_np := hT.gi gm tt_10 (k := 20) rfl
  rw [f_m_persons] at b_np
  have b_np : 0 ≤ np.toInt ∧ np.toInt ≤ 40 := b_np
  obtain ⟨a0, f_m_acts⟩ : ∃ y : Int32, hl1.2.1 am 1 = y := ⟨_, rfl⟩
  have b_a0 := hT.gi gm tt_10 (k := 1) rfl
  rw [f_m_acts] at b_a0
  have b_a0 : 0 ≤ a0.toInt ∧ a0.toInt ≤ 8 := b_a0
  obtain ⟨c0, f_m_claims⟩ : ∃ y : Int32, hl1.2.1 am 36 = y := ⟨_, rfl⟩
  have b_c0 := hT.gi gm tt_10 (k := 36) rfl
  rw [f_m_claims] at b_c0
  have b_c0 : 0 ≤ c0.toInt ∧ c0.toInt ≤ 100 := b_c0
  obtain ⟨m0, f_m_heardMany⟩ : ∃ y : Int32, hl1.2.1 am 57 = y := ⟨_, rfl⟩
  have b_m0 := hT.gi gm tt_10 (k := 57) rfl
  rw [f_m_heardMany] at b_m0
  have b_m0 : 0 ≤ m0.toInt ∧ m0.toInt ≤ 100 := b_m0
  have f_x_now : hl1.2.1 ax 2 = nw := he_nw.trans f_m_now
  have f_x_personCount : hl1.2.1 ax 8 = np := he_np.trans f_m_persons
  obtain ⟨mw, f_mw, g_mw⟩ := hx_rf hT gm tt_10 (k := 19) (u := 57) rfl
  obtain ⟨F_mw, n_mw⟩ : ∃ g : Nat → Int32, hl1.2.1 mw = g := ⟨_, rfl⟩
  obtain ⟨mr, f_mr, g_mr⟩ := hx_rf hT gm tt_10 (k := 3) (u := 50) rfl
  obtain ⟨F_mr, n_mr⟩ : ∃ g : Nat → Int32, hl1.2.1 mr = g := ⟨_, rfl⟩
  obtain ⟨mp, f_mp, g_mp⟩ := hx_rf hT gm tt_10 (k := 5) (u := 52) rfl
  obtain ⟨F_mp, n_mp⟩ : ∃ g : Nat → Int32, hl1.2.1 mp = g := ⟨_, rfl⟩
  obtain ⟨mn, f_mn, g_mn⟩ := hx_rf hT gm tt_10 (k := 4) (u := 51) rfl
  obtain ⟨F_mn, n_mn⟩ : ∃ g : Nat → Int32, hl1.2.1 mn = g := ⟨_, rfl⟩
  obtain ⟨ml, f_ml, g_ml⟩ := hx_rf hT gm tt_10 (k := 44) (u := 79) rfl
  obtain ⟨F_ml, n_ml⟩ : ∃ g : Nat → Int32, hl1.2.1 ml = g := ⟨_, rfl⟩
  obtain ⟨mh, f_mh, g_mh⟩ := hx_rf hT gm tt_10 (k := 47) (u := 82) rfl
  obtain ⟨F_mh, n_mh⟩ : ∃ g : Nat → Int32, hl1.2.1 mh = g := ⟨_, rfl⟩
  obtain ⟨mt, f_mt, g_mt⟩ := hx_rf hT gm tt_10 (k := 45) (u := 80) rfl
  obtain ⟨F_mt, n_mt⟩ : ∃ g : Nat → Int32, hl1.2.1 mt = g := ⟨_, rfl⟩
  have hwd := jw mw f_mw; rw [n_mw] at hwd
  have hWK := jr mr f_mr; rw [n_mr, f_m_acts] at hWK
  have hRP := jp mp mn f_mp f_mn; rw [n_mp, n_mn, f_m_acts] at hRP
  have hPL := jl ml f_ml; rw [n_ml, f_m_claims, f_m_acts] at hPL
  have hHC := jh mh f_mh; rw [n_mh, f_m_heardMany, f_m_claims] at hHC
  have hTR := jt mt f_mt; rw [n_mt] at hTR
  refine lv_aload_n hx hb dL_law_1356 rfl (lv_at hl 2 rfl) ?_
  refine lv_aload_n hx hb dL_law_1357 rfl (lv_at hl 3 rfl) ?_
  refine lv_iload_n hx hb dL_law_1358 rfl (lv_at hl 0 rfl) ?_
  refine lv_iconst (v := 1) hx hb dL_law_1359 (by decide) ?_
  refine lv_iadd hx hb dL_law_1360 ?_
  have rg_702 := i32_r i
  refine lv_topi (fun x_703 ex_703 => ?_)
  have zx_703 : x_703.toInt = i.toInt + 1 := by rw [ex_703]; exact i32_add rfl (by decide) (by omega) (by omega)
  refine va_sld hx hb hX hbl hbA hW.2.2.2.1 (vp_in_iff.mpr ⟨by omega, by omega⟩) dL_law_1361 ?_
  refine lv_topi (fun x_704 ex_704 => ?_)
  refine hx_goi (hx_runV (As := [.int x_704]) (rest := []) ⟨hx, hb, hml, hown, hts⟩ hW gx tt_9 (T := TX9) (N := 20) rfl (t_X9_count l dC dI dA L1 hl1 H.size ax x_704 hT gx qp g_qp f_qp pf_qp) (cwV 1 hts (hx_gV kw_1108 kw_1105 kw_1106 kw_1107 kw_94) rfl rfl rfl (by decide +kernel) ⟨Nat.le_of_ble_eq_true rfl, Nat.le_of_ble_eq_true rfl⟩) rfl hl.1 rfl (Nat.le_of_ble_eq_true rfl) dL_law_1362 ⟨(show CC + 0 ≤ 600000 from by omega), (show SS + 0 ≤ 7302250 from by omega)⟩) hW (fun r_707 L_705 h_706 H locs p_708 hW => ?_)
  obtain ⟨hr_709, hT, hs⟩ := p_708
  have hT : hx_T T_tb L_705 h_706 := hT
  have hs : hx_S T_tb [] L1 hl1 L_705 h_706 := hs
  have f_qa := (hs.o gx trivial rfl).2.trans f_qa
  have f_qp := (hs.o gx trivial rfl).2.trans f_qp
  have f_qc := (hs.o gx trivial rfl).2.trans f_qc
  have f_qh := (hs.o gx trivial rfl).2.trans f_qh
  have f_qw := (hs.o gx trivial rfl).2.trans f_qw
  have f_ql := (hs.o g_qw trivial rfl).2.trans f_ql
  have f_m_now := (hs.o gm trivial rfl).1.trans f_m_now
  have f_m_persons := (hs.o gm trivial rfl).1.trans f_m_persons
  have f_m_acts := (hs.o gm trivial rfl).1.trans f_m_acts
  have f_m_claims := (hs.o gm trivial rfl).1.trans f_m_claims
  have f_m_heardMany := (hs.o gm trivial rfl).1.trans f_m_heardMany
  have f_x_now := (hs.o gx trivial rfl).1.trans f_x_now
  have f_x_personCount := (hs.o gx trivial rfl).1.trans f_x_personCount
  have f_mw := (hs.o gm trivial rfl).2.trans f_mw
  have f_mr := (hs.o gm trivial rfl).2.trans f_mr
  have f_mp := (hs.o gm trivial rfl).2.trans f_mp
  have f_mn := (hs.o gm trivial rfl).2.trans f_mn
  have f_ml := (hs.o gm trivial rfl).2.trans f_ml
  have f_mh := (hs.o gm trivial rfl).2.trans f_mh
  have f_mt := (hs.o gm trivial rfl).2.trans f_mt
  have pf_qa : ∀ j : Nat, (j : Int) < (h_706.2.1 ax 6).toInt → h_706.2.2 qa j ≠ none := by
    intro j hj; rw [(hs.o gx trivial rfl).1] at hj; rw [(hs.a g_qa rfl j).2]; exact pf_qa j hj
  have pf_qp : ∀ j : Nat, (j : Int) < (h_706.2.1 ax 8).toInt → h_706.2.2 qp j ≠ none := by
    intro j hj; rw [(hs.o gx trivial rfl).1] at hj; rw [(hs.a g_qp rfl j).2]; exact pf_qp j hj
  have pf_qc : ∀ j : Nat, (j : Int) < (h_706.2.1 ax 11).toInt → h_706.2.2 qc j ≠ none := by
    intro j hj; rw [(hs.o gx trivial rfl).1] at hj; rw [(hs.a g_qc rfl j).2]; exact pf_qc j hj
  have pf_qh : ∀ j : Nat, (j : Int) < (h_706.2.1 ax 13).toInt → h_706.2.2 qh j ≠ none := by
    intro j hj; rw [(hs.o gx trivial rfl).1] at hj; rw [(hs.a g_qh rfl j).2]; exact pf_qh j hj
  have pf_ql : ∀ j : Nat, (j : Int) < (h_706.2.1 qw 0).toInt → h_706.2.2 ql j ≠ none := by
    intro j hj; rw [(hs.o g_qw trivial rfl).1] at hj; rw [(hs.a g_ql rfl j).2]; exact pf_ql j hj
  have n_mw : h_706.2.1 mw = F_mw := (funext fun j => (hs.a g_mw rfl j).1).trans n_mw
  have n_mr : h_706.2.1 mr = F_mr := (funext fun j => (hs.a g_mr rfl j).1).trans n_mr
  have n_mp : h_706.2.1 mp = F_mp := (funext fun j => (hs.a g_mp rfl j).1).trans n_mp
  have n_mn : h_706.2.1 mn = F_mn := (funext fun j => (hs.a g_mn rfl j).1).trans n_mn
  have n_ml : h_706.2.1 ml = F_ml := (funext fun j => (hs.a g_ml rfl j).1).trans n_ml
  have n_mh : h_706.2.1 mh = F_mh := (funext fun j => (hs.a g_mh rfl j).1).trans n_mh
  have n_mt : h_706.2.1 mt = F_mt := (funext fun j => (hs.a g_mt rfl j).1).trans n_mt
  have gx := gx.S hs
  have gm := gm.S hs
  have g_qa := g_qa.S hs
  have g_qp := g_qp.S hs
  have g_qc := g_qc.S hs
  have g_qh := g_qh.S hs
  have g_qw := g_qw.S hs
  have g_ql := g_ql.S hs
  have g_mw := g_mw.S hs
  have g_mr := g_mr.S hs
  have g_mp := g_mp.S hs
  have g_mn := g_mn.S hs
  have g_ml := g_ml.S hs
  have g_mh := g_mh.S hs
  have g_mt := g_mt.S hs
  refine lv_pop hx hb dL_law_1365 rfl ?_
  refine lv_aload_n hx hb dL_law_1366 rfl (lv_at hl 1 rfl) ?_
  refine lv_aload_n hx hb dL_law_1367 rfl (lv_at hl 3 rfl) ?_
  refine lv_iload_n hx hb dL_law_1368 rfl (lv_at hl 0 rfl) ?_
  refine lv_iconst (v := 1) hx hb dL_law_1369 (by decide) ?_
  refine lv_iadd hx hb dL_law_1370 ?_
  refine lv_topi (fun x_710 ex_710 => ?_)
  have zx_710 : x_710.toInt = i.toInt + 1 := by rw [ex_710]; exact i32_add rfl (by decide) (by omega) (by omega)
  obtain rfl : x_703 = x_710 := ex_703.trans ex_710.symm
  refine va_sld hx hb hX hbl hbA hW.2.2.2.1 (vp_in_iff.mpr ⟨by omega, by omega⟩) dL_law_1371 ?_
  refine lv_topi (fun x_711 ex_711 => ?_)
  obtain rfl : x_704 = x_711 := ex_704.trans ex_711.symm
  refine hx_goi (hx_runV (As := [.int x_704]) (rest := []) ⟨hx, hb, hml, hown, hts⟩ hW gm tt_10 (T := TX10) (N := 98) rfl (t_X10_count l dC dI dA L_705 h_706 H.size am x_704 hT gm) (cwV 1 hts (hx_gV kw_1753 kw_1750 kw_1751 kw_1752 kw_103) rfl rfl rfl (by decide +kernel) ⟨Nat.le_of_ble_eq_true rfl, Nat.le_of_ble_eq_true rfl⟩) rfl hl.1 rfl (Nat.le_of_ble_eq_true rfl) dL_law_1372 ⟨(show CC + 0 + 0 ≤ 600000 from by omega), (show SS + 0 + 0 ≤ 7302250 from by omega)⟩) hW (fun r_714 L_712 h_713 H locs p_715 hW => ?_)
  obtain ⟨hr_716, hT, hs⟩ := p_715
  have hT : hx_T T_tb L_712 h_713 := hT
  have hs : hx_S T_tb [] L_705 h_706 L_712 h_713 := hs
  have f_qa := (hs.o gx trivial rfl).2.trans f_qa
  have f_qp := (hs.o gx trivial rfl).2.trans f_qp
  have f_qc := (hs.o gx trivial rfl).2.trans f_qc
  have f_qh := (hs.o gx trivial rfl).2.trans f_qh
  have f_qw := (hs.o gx trivial rfl).2.trans f_qw
  have f_ql := (hs.o g_qw trivial rfl).2.trans f_ql
  have f_m_now := (hs.o gm trivial rfl).1.trans f_m_now
  have f_m_persons := (hs.o gm trivial rfl).1.trans f_m_persons
  have f_m_acts := (hs.o gm trivial rfl).1.trans f_m_acts
  have f_m_claims := (hs.o gm trivial rfl).1.trans f_m_claims
  have f_m_heardMany := (hs.o gm trivial rfl).1.trans f_m_heardMany
  have f_x_now := (hs.o gx trivial rfl).1.trans f_x_now
  have f_x_personCount := (hs.o gx trivial rfl).1.trans f_x_personCount
  have f_mw := (hs.o gm trivial rfl).2.trans f_mw
  have f_mr := (hs.o gm trivial rfl).2.trans f_mr
  have f_mp := (hs.o gm trivial rfl).2.trans f_mp
  have f_mn := (hs.o gm trivial rfl).2.trans f_mn
  have f_ml := (hs.o gm trivial rfl).2.trans f_ml
  have f_mh := (hs.o gm trivial rfl).2.trans f_mh
  have f_mt := (hs.o gm trivial rfl).2.trans f_mt
  have pf_qa : ∀ j : Nat, (j : Int) < (h_713.2.1 ax 6).toInt → h_713.2.2 qa j ≠ none := by
    intro j hj; rw [(hs.o gx trivial rfl).1] at hj; rw [(hs.a g_qa rfl j).2]; exact pf_qa j hj
  have pf_qp : ∀ j : Nat, (j : Int) < (h_713.2.1 ax 8).toInt → h_713.2.2 qp j ≠ none := by
    intro j hj; rw [(hs.o gx trivial rfl).1] at hj; rw [(hs.a g_qp rfl j).2]; exact pf_qp j hj
  have pf_qc : ∀ j : Nat, (j : Int) < (h_713.2.1 ax 11).toInt → h_713.2.2 qc j ≠ none := by
    intro j hj; rw [(hs.o gx trivial rfl).1] at hj; rw [(hs.a g_qc rfl j).2]; exact pf_qc j hj
  have pf_qh : ∀ j : Nat, (j : Int) < (h_713.2.1 ax 13).toInt → h_713.2.2 qh j ≠ none := by
    intro j hj; rw [(hs.o gx trivial rfl).1] at hj; rw [(hs.a g_qh rfl j).2]; exact pf_qh j hj
  have pf_ql : ∀ j : Nat, (j : Int) < (h_713.2.1 qw 0).toInt → h_713.2.2 ql j ≠ none := by
    intro j hj; rw [(hs.o g_qw trivial rfl).1] at hj; rw [(hs.a g_ql rfl j).2]; exact pf_ql j hj
  have n_mw : h_713.2.1 mw = F_mw := (funext fun j => (hs.a g_mw rfl j).1).trans n_mw
  have n_mr : h_713.2.1 mr = F_mr := (funext fun j => (hs.a g_mr rfl j).1).trans n_mr
  have n_mp : h_713.2.1 mp = F_mp := (funext fun j => (hs.a g_mp rfl j).1).trans n_mp
  have n_mn : h_713.2.1 mn = F_mn := (funext fun j => (hs.a g_mn rfl j).1).trans n_mn
  have n_ml : h_713.2.1 ml = F_ml := (funext fun j => (hs.a g_ml rfl j).1).trans n_ml
  have n_mh : h_713.2.1 mh = F_mh := (funext fun j => (hs.a g_mh rfl j).1).trans n_mh
  have n_mt : h_713.2.1 mt = F_mt := (funext fun j => (hs.a g_mt rfl j).1).trans n_mt
  have gx := gx.S hs
  have gm := gm.S hs
  have g_qa := g_qa.S hs
  have g_qp := g_qp.S hs
  have g_qc := g_qc.S hs
  have g_qh := g_qh.S hs
  have g_qw := g_qw.S hs
  have g_ql := g_ql.S hs
  have g_mw := g_mw.S hs
  have g_mr := g_mr.S hs
  have g_mp := g_mp.S hs
  have g_mn := g_mn.S hs
  have g_ml := g_ml.S hs
  have g_mh := g_mh.S hs
  have g_mt := g_mt.S hs
  refine lv_pop hx hb dL_law_1375 rfl ?_
  refine lv_goto (tgt := 1379) hx hb dL_law_1376 (by decide) ?_
  refine W.widen (k := CC + 3) (n := SS + 179) (by omega) (by omega) ?_
  exact kk L_712 h_713 H locs ls hW ⟨hT, gx, gm, ⟨f_x_now.trans f_m_now.symm, f_x_personCount.trans f_m_persons.symm, trivial⟩, ⟨hx_ob f_qa pf_qa, hx_ob f_qp pf_qp, hx_ob f_qc pf_qc, hx_ob f_qh pf_qh, (fun w q hw hq => by obtain rfl : qw = w := Option.some.inj (f_qw.symm.trans hw); obtain rfl : ql = q := Option.some.inj (f_ql.symm.trans hq); exact pf_ql)⟩, ⟨hx_ob f_mw (by rw [n_mw]; exact hwd), hx_ob f_mr (by rw [n_mr, f_m_acts]; exact hWK), hx_ob2 f_mp f_mn (by rw [n_mp, n_mn, f_m_acts]; exact hRP), hx_ob f_ml (by rw [n_ml, f_m_claims, f_m_acts]; exact hPL), hx_ob f_mh (by rw [n_mh, f_m_heardMany, f_m_claims]; exact hHC), hx_ob f_mt (by rw [n_mt]; exact (hx_TR_le hTR (by omega)))⟩⟩ hl
