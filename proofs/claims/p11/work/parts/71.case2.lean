set_option maxHeartbeats 4000000 in
set_option maxRecDepth 100000 in
theorem law_case_16 {p : Program} {e : Env} {s : State} {m : MethodId} {below : List Frame} {meth : Method} {c : Code} (l : Launch) {b LN : Nat} {xs : Nat → Int32} (hx : p.tables.exec = Jvm.exec) (hb : c.code = code) (hr : meth.sig.returnType = ret) (hlocks : meth.locks = false) (hml : c.maxLocals = 4) (hown : s.vm.findClass "SmallCourtLaw" = some m.cls) (hts : ∀ w ∈ hx_all, w.before #[Value.ref b] s = true) (hX : va_X b LN xs s s.heap) (hbl : b < s.heap.size) (hbA : ¬ s.heap.size ≤ b) (hLN : LN ≤ 3584) (dC : Nat → ClassId) (dI : Nat → Nat → Nat) (dA : Nat → ClassId) (b0 : hx_z) (ax am : Nat) (T1 : Int) (hT0 : 0 ≤ T1) (hT1 : T1 ≤ 511) (i : Int32) (hi0 : 0 ≤ i.toInt) (hiL : i.toInt + 7 ≤ LN) (CC SS : Nat) (hCC : CC + 3 ≤ 600000) (hSS : SS + 179 ≤ 7302250) (L1 : List Nat) (hl1 : hx_h) (H : Heap) (locs : List Loc) (ls : Array Slot) (hW : hx_W T_tb (P_ty dA) (dC, dI) vwCl (fun q : Nat => s.heap.size ≤ q) s.heap L1 hl1 s H locs) (hZ : hx_Xt (fun q : Nat => s.heap.size ≤ q) b0 s) (hI : hx_IV T1 ax am L1 hl1) (hl : lv_has ls 4 [(3, .int i), (2, .ref am), (1, .ref ax), (0, .ref b)]) (kk : ∀ (L2 : List Nat) (h2 : hx_h) (H2 : Heap) (locs2 : List Loc) (ls2 : Array Slot), hx_W T_tb (P_ty dA) (dC, dI) vwCl (fun q : Nat => s.heap.size ≤ q) s.heap L2 h2 s H2 locs2 → hx_IV (T1 + 1) ax am L2 h2 → lv_has ls2 4 [(3, .int i), (2, .ref am), (1, .ref ax), (0, .ref b)] → W p l e room_1 s m #[Value.ref b] below meth c H2 locs2 (CC + 3) (SS + 179) (lw_Z below #[Value.ref b] s) (F0 m 1379 ls2 [])) : W p l e room_1 s m #[Value.ref b] below meth c H locs CC SS (lw_Z below #[Value.ref b] s) (F0 m 964 ls []) := by
  obtain ⟨hT, gx, gm, ⟨he_nw, he_np, he_c0, ho_ln, hn_qp, hc_dead, hc_isj, -⟩, ⟨ia, ip, ic, ih, il⟩, ⟨jw, jr, jp, jl, jh, jt⟩⟩ := hI
  obtain ⟨qa, f_qa, g_qa⟩ := hx_rf hT gx tt_9 (k := 5) (u := 43) rfl
  have pf_qa := ia qa f_qa
  obtain ⟨qp, f_qp, g_qp⟩ := hx_rf hT gx tt_9 (k := 7) (u := 44) rfl
  have pf_qp := ip qp f_qp
  obtain ⟨qc, f_qc, g_qc⟩ := hx_rf hT gx tt_9 (k := 10) (u := 45) rfl
  have pf_qc := ic qc f_qc
  obtain ⟨qh, f_qh, g_qh⟩ := hx_rf hT gx tt_9 (k := 12) (u := 46) rfl
  have pf_qh := ih qh f_qh
  obtain ⟨qw, f_qw, g_qw⟩ := hx_rf hT gx tt_9 (k := 19) (u := 8) rfl
  obtain ⟨ql, f_ql, g_ql⟩ := hx_rf hT g_qw tt_8 (k := 3) (u := 40) rfl
  have pf_ql := il qw ql f_qw f_ql
  obtain ⟨nw, f_m_now⟩ : ∃ y : Int32, hl1.2.1 am 0 = y := ⟨_, rfl⟩
  have b_nw := hT.gi gm tt_10 (k := 0) rfl
  rw [f_m_now] at b_nw
  have b_nw : 0 ≤ nw.toInt ∧ nw.toInt ≤ 7999 := b_nw
  obtain ⟨np, f_m_persons⟩ : ∃ y : Int32, hl1.2.1 am 20 = y := ⟨_, rfl⟩
  have b_np := hT.gi gm tt_10 (k := 20) rfl
  rw [f_m_persons] at b_np
  have b_np : 0 ≤ np.toInt ∧ np.toInt ≤ 40 := b_np
  obtain ⟨c0, f_m_claims⟩ : ∃ y : Int32, hl1.2.1 am 36 = y := ⟨_, rfl⟩
  have b_c0 := hT.gi gm tt_10 (k := 36) rfl
  rw [f_m_claims] at b_c0
  have b_c0 : 0 ≤ c0.toInt ∧ c0.toInt ≤ 100 := b_c0
  obtain ⟨ln, f_m_lines⟩ : ∃ y : Int32, hl1.2.1 am 29 = y := ⟨_, rfl⟩
  have b_ln := hT.gi gm tt_10 (k := 29) rfl
  rw [f_m_lines] at b_ln
  have b_ln : 0 ≤ ln.toInt ∧ ln.toInt ≤ 400 := b_ln
  obtain ⟨a0, f_m_acts⟩ : ∃ y : Int32, hl1.2.1 am 1 = y := ⟨_, rfl⟩
  have b_a0 := hT.gi gm tt_10 (k := 1) rfl
  rw [f_m_acts] at b_a0
  have b_a0 : 0 ≤ a0.toInt ∧ a0.toInt ≤ 8 := b_a0
  obtain ⟨m0, f_m_heardMany⟩ : ∃ y : Int32, hl1.2.1 am 57 = y := ⟨_, rfl⟩
  have b_m0 := hT.gi gm tt_10 (k := 57) rfl
  rw [f_m_heardMany] at b_m0
  have b_m0 : 0 ≤ m0.toInt ∧ m0.toInt ≤ 100 := b_m0
  have f_x_now : hl1.2.1 ax 2 = nw := he_nw.trans f_m_now
  have f_x_personCount : hl1.2.1 ax 8 = np := he_np.trans f_m_persons
  have f_x_claimCount : hl1.2.1 ax 11 = c0 := he_c0.trans f_m_claims
  obtain ⟨mw, f_mw, g_mw⟩ := hx_rf hT gm tt_10 (k := 19) (u := 57) rfl
  obtain ⟨F_mw, n_mw⟩ : ∃ g : Nat → Int32, hl1.2.1 mw = g := ⟨_, rfl⟩
  obtain ⟨mr, f_mr, g_mr⟩ := hx_rf hT gm tt_10 (k := 3) (u := 50) rfl
  obtain ⟨F_mr, n_mr⟩ : ∃ g : Nat → Int32, hl1.2.1 mr = g := ⟨_, rfl⟩
  obtain ⟨mp, f_mp, g_mp⟩ := hx_rf hT gm tt_10 (k := 5) (u := 52) rfl
  obtain ⟨F_mp, n_mp⟩ : ∃ g : Nat → Int32, hl1.2.1 mp = g := ⟨_, rfl⟩
  obtain ⟨mn, f_mn, g_mn⟩ := hx_rf hT gm tt_10 (k := 4) (u := 51) rfl
  obtain ⟨F_mn, n_mn⟩ : ∃ g : Nat → Int32, hl1.2.1 mn = g := ⟨_, rfl⟩
  obtain ⟨ml, f_ml, g_ml⟩ := hx_rf hT gm tt_10 (k := 44) (u := 79) rfl
  obtain ⟨F_ml, n_ml⟩ : ∃ g : Nat → Int32, hl1.2.1 ml = g := ⟨_, rfl⟩
  obtain ⟨mh, f_mh, g_mh⟩ := hx_rf hT gm tt_10 (k := 47) (u := 82) rfl
  obtain ⟨F_mh, n_mh⟩ : ∃ g : Nat → Int32, hl1.2.1 mh = g := ⟨_, rfl⟩
  obtain ⟨mt, f_mt, g_mt⟩ := hx_rf hT gm tt_10 (k := 45) (u := 80) rfl
  obtain ⟨F_mt, n_mt⟩ : ∃ g : Nat → Int32, hl1.2.1 mt = g := ⟨_, rfl⟩
  obtain ⟨qo_ln, f_qo_ln, g_qo_ln⟩ := hx_rf hT gx tt_9 (k := 9) (u := 1) rfl
  have f_o_ln : hl1.2.1 qo_ln 0 = ln := (ho_ln qo_ln f_qo_ln).trans f_m_lines
  have nu_qp := hn_qp qp f_qp; rw [f_x_personCount] at nu_qp
  obtain ⟨c_dead, cl_dead⟩ : ∃ g : Nat → Int32, hx_col 40 hl1 qp 7 = g := ⟨_, rfl⟩
  obtain ⟨m_dead, f_m_dead, g_m_dead⟩ := hx_rf hT gm tt_10 (k := 27) (u := 64) rfl
  obtain ⟨F_dead, n_dead⟩ : ∃ g : Nat → Int32, hl1.2.1 m_dead = g := ⟨_, rfl⟩
  have eq_dead := hc_dead qp m_dead f_qp f_m_dead; rw [cl_dead, n_dead] at eq_dead
  have z_dead : np.toInt.toNat < 40 → c_dead np.toInt.toNat = 0 := fun hj => hx_num_z nu_qp cl_dead hj (by omega)
  obtain ⟨c_isj, cl_isj⟩ : ∃ g : Nat → Int32, hx_col 40 hl1 qp 8 = g := ⟨_, rfl⟩
  obtain ⟨m_isj, f_m_isj, g_m_isj⟩ := hx_rf hT gm tt_10 (k := 28) (u := 65) rfl
  obtain ⟨F_isj, n_isj⟩ : ∃ g : Nat → Int32, hl1.2.1 m_isj = g := ⟨_, rfl⟩
  have eq_isj := hc_isj qp m_isj f_qp f_m_isj; rw [cl_isj, n_isj] at eq_isj
  have z_isj : np.toInt.toNat < 40 → c_isj np.toInt.toNat = 0 := fun hj => hx_num_z nu_qp cl_isj hj (by omega)
  have hwd := jw mw f_mw; rw [n_mw] at hwd
  have hWK := jr mr f_mr; rw [n_mr, f_m_acts] at hWK
  have hRP := jp mp mn f_mp f_mn; rw [n_mp, n_mn, f_m_acts] at hRP
  have hPL := jl ml f_ml; rw [n_ml, f_m_claims, f_m_acts] at hPL
  have hHC := jh mh f_mh; rw [n_mh, f_m_heardMany, f_m_claims] at hHC
  have hTR := jt mt f_mt; rw [n_mt] at hTR
  refine lv_aload_n hx hb dL_law_964 rfl (lv_at hl 2 rfl) ?_
  refine lv_aload_n hx hb dL_law_965 rfl (lv_at hl 3 rfl) ?_
  refine lv_iload_n hx hb dL_law_966 rfl (lv_at hl 0 rfl) ?_
  refine lv_iconst (v := 1) hx hb dL_law_967 (by decide) ?_
  refine lv_iadd hx hb dL_law_968 ?_
  have rg_434 := i32_r i
  refine lv_topi (fun x_435 ex_435 => ?_)
  have zx_435 : x_435.toInt = i.toInt + 1 := by rw [ex_435]; exact i32_add rfl (by decide) (by omega) (by omega)
  refine va_sld hx hb hX hbl hbA hW.2.2.2.1 (vp_in_iff.mpr ⟨by omega, by omega⟩) dL_law_969 ?_
  refine lv_topi (fun x_436 ex_436 => ?_)
  have hTo := hT
  refine hx_goi (hx_runV (As := [.int x_436]) (rest := []) ⟨hx, hb, hml, hown, hts⟩ hW gx tt_9 (T := TX9) (N := 20) rfl (t_X9_strike l dC dI dA L1 hl1 H.size ax x_436 hT gx) (cwV 1 hts (hx_gV kw_899 kw_896 kw_897 kw_898 kw_94) rfl rfl rfl (by decide +kernel) ⟨Nat.le_of_ble_eq_true rfl, Nat.le_of_ble_eq_true rfl⟩) rfl hl.1 rfl (Nat.le_of_ble_eq_true rfl) dL_law_970 ⟨(show CC + 0 ≤ 600000 from by omega), (show SS + 0 ≤ 7302250 from by omega)⟩) hW (fun r_439 L_437 h_438 H locs p_440 hW => ?_)
  obtain ⟨hr_441, hT, hs⟩ := p_440
  have hT : hx_T T_tb L_437 h_438 := hT
  have hs : hx_S T_tb [(22, 0)] L1 hl1 L_437 h_438 := hs
  have f_qa := (hs.o gx trivial rfl).2.trans f_qa
  have f_qp := (hs.o gx trivial rfl).2.trans f_qp
  have f_qc := (hs.o gx trivial rfl).2.trans f_qc
  have f_qh := (hs.o gx trivial rfl).2.trans f_qh
  have f_qw := (hs.o gx trivial rfl).2.trans f_qw
  have f_ql := (hs.o g_qw trivial rfl).2.trans f_ql
  have f_m_now := (hs.o gm trivial rfl).1.trans f_m_now
  have f_m_persons := (hs.o gm trivial rfl).1.trans f_m_persons
  have f_m_claims := (hs.o gm trivial rfl).1.trans f_m_claims
  have f_m_lines := (hs.o gm trivial rfl).1.trans f_m_lines
  have f_m_acts := (hs.o gm trivial rfl).1.trans f_m_acts
  have f_m_heardMany := (hs.o gm trivial rfl).1.trans f_m_heardMany
  have f_x_now := (hs.o gx trivial rfl).1.trans f_x_now
  have f_x_personCount := (hs.o gx trivial rfl).1.trans f_x_personCount
  have f_x_claimCount := (hs.o gx trivial rfl).1.trans f_x_claimCount
  have f_mw := (hs.o gm trivial rfl).2.trans f_mw
  have f_mr := (hs.o gm trivial rfl).2.trans f_mr
  have f_mp := (hs.o gm trivial rfl).2.trans f_mp
  have f_mn := (hs.o gm trivial rfl).2.trans f_mn
  have f_ml := (hs.o gm trivial rfl).2.trans f_ml
  have f_mh := (hs.o gm trivial rfl).2.trans f_mh
  have f_mt := (hs.o gm trivial rfl).2.trans f_mt
  have f_qo_ln := (hs.o gx trivial rfl).2.trans f_qo_ln
  have f_o_ln := (hs.o g_qo_ln trivial rfl).1.trans f_o_ln
  have f_m_dead := (hs.o gm trivial rfl).2.trans f_m_dead
  have f_m_isj := (hs.o gm trivial rfl).2.trans f_m_isj
  have pf_qa : ∀ j : Nat, (j : Int) < (h_438.2.1 ax 6).toInt → h_438.2.2 qa j ≠ none := by
    intro j hj; rw [(hs.o gx trivial rfl).1] at hj; rw [(hs.a g_qa rfl j).2]; exact pf_qa j hj
  have pf_qp : ∀ j : Nat, (j : Int) < (h_438.2.1 ax 8).toInt → h_438.2.2 qp j ≠ none := by
    intro j hj; rw [(hs.o gx trivial rfl).1] at hj; rw [(hs.a g_qp rfl j).2]; exact pf_qp j hj
  have pf_qc : ∀ j : Nat, (j : Int) < (h_438.2.1 ax 11).toInt → h_438.2.2 qc j ≠ none := by
    intro j hj; rw [(hs.o gx trivial rfl).1] at hj; rw [(hs.a g_qc rfl j).2]; exact pf_qc j hj
  have pf_qh : ∀ j : Nat, (j : Int) < (h_438.2.1 ax 13).toInt → h_438.2.2 qh j ≠ none := by
    intro j hj; rw [(hs.o gx trivial rfl).1] at hj; rw [(hs.a g_qh rfl j).2]; exact pf_qh j hj
  have pf_ql : ∀ j : Nat, (j : Int) < (h_438.2.1 qw 0).toInt → h_438.2.2 ql j ≠ none := by
    intro j hj; rw [(hs.o g_qw trivial rfl).1] at hj; rw [(hs.a g_ql rfl j).2]; exact pf_ql j hj
  have cl_dead : hx_col 40 h_438 qp 7 = c_dead := (hx_col_S hs hTo g_qp tt_44 tt_4 rfl rfl).trans cl_dead
  have cl_isj : hx_col 40 h_438 qp 8 = c_isj := (hx_col_S hs hTo g_qp tt_44 tt_4 rfl rfl).trans cl_isj
  have nu_qp : hx_num 40 h_438 qp 0 (np.toInt) := hx_num_S hs hTo g_qp tt_44 tt_4 rfl rfl nu_qp
  have n_mw : h_438.2.1 mw = F_mw := (funext fun j => (hs.a g_mw rfl j).1).trans n_mw
  have n_mr : h_438.2.1 mr = F_mr := (funext fun j => (hs.a g_mr rfl j).1).trans n_mr
  have n_mp : h_438.2.1 mp = F_mp := (funext fun j => (hs.a g_mp rfl j).1).trans n_mp
  have n_mn : h_438.2.1 mn = F_mn := (funext fun j => (hs.a g_mn rfl j).1).trans n_mn
  have n_ml : h_438.2.1 ml = F_ml := (funext fun j => (hs.a g_ml rfl j).1).trans n_ml
  have n_mh : h_438.2.1 mh = F_mh := (funext fun j => (hs.a g_mh rfl j).1).trans n_mh
  have n_mt : h_438.2.1 mt = F_mt := (funext fun j => (hs.a g_mt rfl j).1).trans n_mt
  have n_dead : h_438.2.1 m_dead = F_dead := (funext fun j => (hs.a g_m_dead rfl j).1).trans n_dead
  have n_isj : h_438.2.1 m_isj = F_isj := (funext fun j => (hs.a g_m_isj rfl j).1).trans n_isj
  have gx := gx.S hs
  have gm := gm.S hs
  have g_qa := g_qa.S hs
  have g_qp := g_qp.S hs
  have g_qc := g_qc.S hs
  have g_qh := g_qh.S hs
  have g_qw := g_qw.S hs
  have g_ql := g_ql.S hs
  have g_mw := g_mw.S hs
  have g_mr := g_mr.S hs
  have g_mp := g_mp.S hs
  have g_mn := g_mn.S hs
  have g_ml := g_ml.S hs
  have g_mh := g_mh.S hs
  have g_mt := g_mt.S hs
  have g_qo_ln := g_qo_ln.S hs
  have g_m_dead := g_m_dead.S hs
  have g_m_isj := g_m_isj.S hs
  refine lv_pop hx hb dL_law_973 rfl ?_
  refine lv_aload_n hx hb dL_law_974 rfl (lv_at hl 1 rfl) ?_
  refine lv_aload_n hx hb dL_law_975 rfl (lv_at hl 3 rfl) ?_
  refine lv_iload_n hx hb dL_law_976 rfl (lv_at hl 0 rfl) ?_
  refine lv_iconst (v := 1) hx hb dL_law_977 (by decide) ?_
  refine lv_iadd hx hb dL_law_978 ?_
  refine lv_topi (fun x_442 ex_442 => ?_)
  have zx_442 : x_442.toInt = i.toInt + 1 := by rw [ex_442]; exact i32_add rfl (by decide) (by omega) (by omega)
  obtain rfl : x_435 = x_442 := ex_435.trans ex_442.symm
  refine va_sld hx hb hX hbl hbA hW.2.2.2.1 (vp_in_iff.mpr ⟨by omega, by omega⟩) dL_law_979 ?_
  refine lv_topi (fun x_443 ex_443 => ?_)
  obtain rfl : x_436 = x_443 := ex_436.trans ex_443.symm
  have hTo := hT
  refine hx_goi (hx_runV (As := [.int x_436]) (rest := []) ⟨hx, hb, hml, hown, hts⟩ hW gm tt_10 (T := TX10) (N := 98) rfl (t_X10_strike l dC dI dA L_437 h_438 H.size am x_436 hT gm) (cwV 1 hts (hx_gV kw_1657 kw_1654 kw_1655 kw_1656 kw_103) rfl rfl rfl (by decide +kernel) ⟨Nat.le_of_ble_eq_true rfl, Nat.le_of_ble_eq_true rfl⟩) rfl hl.1 rfl (Nat.le_of_ble_eq_true rfl) dL_law_980 ⟨(show CC + 0 + 0 ≤ 600000 from by omega), (show SS + 0 + 0 ≤ 7302250 from by omega)⟩) hW (fun r_446 L_444 h_445 H locs p_447 hW => ?_)
  obtain ⟨hr_448, hT, hs⟩ := p_447
  have hT : hx_T T_tb L_444 h_445 := hT
  have hs : hx_S T_tb [(97, 0)] L_437 h_438 L_444 h_445 := hs
  have f_qa := (hs.o gx trivial rfl).2.trans f_qa
  have f_qp := (hs.o gx trivial rfl).2.trans f_qp
  have f_qc := (hs.o gx trivial rfl).2.trans f_qc
  have f_qh := (hs.o gx trivial rfl).2.trans f_qh
  have f_qw := (hs.o gx trivial rfl).2.trans f_qw
  have f_ql := (hs.o g_qw trivial rfl).2.trans f_ql
  have f_m_now := (hs.o gm trivial rfl).1.trans f_m_now
  have f_m_persons := (hs.o gm trivial rfl).1.trans f_m_persons
  have f_m_claims := (hs.o gm trivial rfl).1.trans f_m_claims
  have f_m_lines := (hs.o gm trivial rfl).1.trans f_m_lines
  have f_m_acts := (hs.o gm trivial rfl).1.trans f_m_acts
  have f_m_heardMany := (hs.o gm trivial rfl).1.trans f_m_heardMany
  have f_x_now := (hs.o gx trivial rfl).1.trans f_x_now
  have f_x_personCount := (hs.o gx trivial rfl).1.trans f_x_personCount
  have f_x_claimCount := (hs.o gx trivial rfl).1.trans f_x_claimCount
  have f_mw := (hs.o gm trivial rfl).2.trans f_mw
  have f_mr := (hs.o gm trivial rfl).2.trans f_mr
  have f_mp := (hs.o gm trivial rfl).2.trans f_mp
  have f_mn := (hs.o gm trivial rfl).2.trans f_mn
  have f_ml := (hs.o gm trivial rfl).2.trans f_ml
  have f_mh := (hs.o gm trivial rfl).2.trans f_mh
  have f_mt := (hs.o gm trivial rfl).2.trans f_mt
  have f_qo_ln := (hs.o gx trivial rfl).2.trans f_qo_ln
  have f_o_ln := (hs.o g_qo_ln trivial rfl).1.trans f_o_ln
  have f_m_dead := (hs.o gm trivial rfl).2.trans f_m_dead
  have f_m_isj := (hs.o gm trivial rfl).2.trans f_m_isj
  have pf_qa : ∀ j : Nat, (j : Int) < (h_445.2.1 ax 6).toInt → h_445.2.2 qa j ≠ none := by
    intro j hj; rw [(hs.o gx trivial rfl).1] at hj; rw [(hs.a g_qa rfl j).2]; exact pf_qa j hj
  have pf_qp : ∀ j : Nat, (j : Int) < (h_445.2.1 ax 8).toInt → h_445.2.2 qp j ≠ none := by
    intro j hj; rw [(hs.o gx trivial rfl).1] at hj; rw [(hs.a g_qp rfl j).2]; exact pf_qp j hj
  have pf_qc : ∀ j : Nat, (j : Int) < (h_445.2.1 ax 11).toInt → h_445.2.2 qc j ≠ none := by
    intro j hj; rw [(hs.o gx trivial rfl).1] at hj; rw [(hs.a g_qc rfl j).2]; exact pf_qc j hj
  have pf_qh : ∀ j : Nat, (j : Int) < (h_445.2.1 ax 13).toInt → h_445.2.2 qh j ≠ none := by
    intro j hj; rw [(hs.o gx trivial rfl).1] at hj; rw [(hs.a g_qh rfl j).2]; exact pf_qh j hj
  have pf_ql : ∀ j : Nat, (j : Int) < (h_445.2.1 qw 0).toInt → h_445.2.2 ql j ≠ none := by
    intro j hj; rw [(hs.o g_qw trivial rfl).1] at hj; rw [(hs.a g_ql rfl j).2]; exact pf_ql j hj
  have cl_dead : hx_col 40 h_445 qp 7 = c_dead := (hx_col_S hs hTo g_qp tt_44 tt_4 rfl rfl).trans cl_dead
  have cl_isj : hx_col 40 h_445 qp 8 = c_isj := (hx_col_S hs hTo g_qp tt_44 tt_4 rfl rfl).trans cl_isj
  have nu_qp : hx_num 40 h_445 qp 0 (np.toInt) := hx_num_S hs hTo g_qp tt_44 tt_4 rfl rfl nu_qp
  have n_mw : h_445.2.1 mw = F_mw := (funext fun j => (hs.a g_mw rfl j).1).trans n_mw
  have n_mr : h_445.2.1 mr = F_mr := (funext fun j => (hs.a g_mr rfl j).1).trans n_mr
  have n_mp : h_445.2.1 mp = F_mp := (funext fun j => (hs.a g_mp rfl j).1).trans n_mp
  have n_mn : h_445.2.1 mn = F_mn := (funext fun j => (hs.a g_mn rfl j).1).trans n_mn
  have n_ml : h_445.2.1 ml = F_ml := (funext fun j => (hs.a g_ml rfl j).1).trans n_ml
  have n_mh : h_445.2.1 mh = F_mh := (funext fun j => (hs.a g_mh rfl j).1).trans n_mh
  have n_mt : h_445.2.1 mt = F_mt := (funext fun j => (hs.a g_mt rfl j).1).trans n_mt
  have n_dead : h_445.2.1 m_dead = F_dead := (funext fun j => (hs.a g_m_dead rfl j).1).trans n_dead
  have n_isj : h_445.2.1 m_isj = F_isj := (funext fun j => (hs.a g_m_isj rfl j).1).trans n_isj
  have gx := gx.S hs
  have gm := gm.S hs
  have g_qa := g_qa.S hs
  have g_qp := g_qp.S hs
  have g_qc := g_qc.S hs
  have g_qh := g_qh.S hs
  have g_qw := g_qw.S hs
  have g_ql := g_ql.S hs
  have g_mw := g_mw.S hs
  have g_mr := g_mr.S hs
  have g_mp := g_mp.S hs
  have g_mn := g_mn.S hs
  have g_ml := g_ml.S hs
  have g_mh := g_mh.S hs
  have g_mt := g_mt.S hs
  have g_qo_ln := g_qo_ln.S hs
  have g_m_dead := g_m_dead.S hs
  have g_m_isj := g_m_isj.S hs
  refine lv_pop hx hb dL_law_983 rfl ?_
  refine lv_goto (tgt := 1379) hx hb dL_law_984 (by decide) ?_
  refine W.widen (k := CC + 3) (n := SS + 179) (by omega) (by omega) ?_
  exact kk L_444 h_445 H locs ls hW ⟨hT, gx, gm, ⟨f_x_now.trans f_m_now.symm, f_x_personCount.trans f_m_persons.symm, f_x_claimCount.trans f_m_claims.symm, hx_ob f_qo_ln (f_o_ln.trans f_m_lines.symm), hx_ob f_qp (by rw [f_x_personCount]; exact nu_qp), hx_ob2 f_qp f_m_dead (by rw [cl_dead, n_dead]; exact eq_dead), hx_ob2 f_qp f_m_isj (by rw [cl_isj, n_isj]; exact eq_isj), trivial⟩, ⟨hx_ob f_qa pf_qa, hx_ob f_qp pf_qp, hx_ob f_qc pf_qc, hx_ob f_qh pf_qh, (fun w q hw hq => by obtain rfl : qw = w := Option.some.inj (f_qw.symm.trans hw); obtain rfl : ql = q := Option.some.inj (f_ql.symm.trans hq); exact pf_ql)⟩, ⟨hx_ob f_mw (by rw [n_mw]; exact hwd), hx_ob f_mr (by rw [n_mr, f_m_acts]; exact hWK), hx_ob2 f_mp f_mn (by rw [n_mp, n_mn, f_m_acts]; exact hRP), hx_ob f_ml (by rw [n_ml, f_m_claims, f_m_acts]; exact hPL), hx_ob f_mh (by rw [n_mh, f_m_heardMany, f_m_claims]; exact hHC), hx_ob f_mt (by rw [n_mt]; exact (hx_TR_le hTR (by omega)))⟩⟩ hl

set_option maxHeartbeats 4000000 in
set_option maxRecDepth 100000 in
theorem law_case_17 {p : Program} {e : Env} {s : State} {m : MethodId} {below : List Frame} {meth : Method} {c : Code} (l : Launch) {b LN : Nat} {xs : Nat → Int32} (hx : p.tables.exec = Jvm.exec) (hb : c.code = code) (hr : meth.sig.returnType = ret) (hlocks : meth.locks = false) (hml : c.maxLocals = 4) (hown : s.vm.findClass "SmallCourtLaw" = some m.cls) (hts : ∀ w ∈ hx_all, w.before #[Value.ref b] s = true) (hX : va_X b LN xs s s.heap) (hbl : b < s.heap.size) (hbA : ¬ s.heap.size ≤ b) (hLN : LN ≤ 3584) (dC : Nat → ClassId) (dI : Nat → Nat → Nat) (dA : Nat → ClassId) (b0 : hx_z) (ax am : Nat) (T1 : Int) (hT0 : 0 ≤ T1) (hT1 : T1 ≤ 511) (i : Int32) (hi0 : 0 ≤ i.toInt) (hiL : i.toInt + 7 ≤ LN) (CC SS : Nat) (hCC : CC + 3 ≤ 600000) (hSS : SS + 179 ≤ 7302250) (L1 : List Nat) (hl1 : hx_h) (H : Heap) (locs : List Loc) (ls : Array Slot) (hW : hx_W T_tb (P_ty dA) (dC, dI) vwCl (fun q : Nat => s.heap.size ≤ q) s.heap L1 hl1 s H locs) (hZ : hx_Xt (fun q : Nat => s.heap.size ≤ q) b0 s) (hI : hx_IV T1 ax am L1 hl1) (hl : lv_has ls 4 [(3, .int i), (2, .ref am), (1, .ref ax), (0, .ref b)]) (kk : ∀ (L2 : List Nat) (h2 : hx_h) (H2 : Heap) (locs2 : List Loc) (ls2 : Array Slot), hx_W T_tb (P_ty dA) (dC, dI) vwCl (fun q : Nat => s.heap.size ≤ q) s.heap L2 h2 s H2 locs2 → hx_IV (T1 + 1) ax am L2 h2 → lv_has ls2 4 [(3, .int i), (2, .ref am), (1, .ref ax), (0, .ref b)] → W p l e room_1 s m #[Value.ref b] below meth c H2 locs2 (CC + 3) (SS + 179) (lw_Z below #[Value.ref b] s) (F0 m 1379 ls2 [])) : W p l e room_1 s m #[Value.ref b] below meth c H locs CC SS (lw_Z below #[Value.ref b] s) (F0 m 987 ls []) := by
  obtain ⟨hT, gx, gm, ⟨he_nw, he_np, he_c0, ho_ln, hn_qp, hc_dead, hc_isj, -⟩, ⟨ia, ip, ic, ih, il⟩, ⟨jw, jr, jp, jl, jh, jt⟩⟩ := hI
  obtain ⟨qa, f_qa, g_qa⟩ := hx_rf hT gx tt_9 (k := 5) (u := 43) rfl
  have pf_qa := ia qa f_qa
  obtain ⟨qp, f_qp, g_qp⟩ := hx_rf hT gx tt_9 (k := 7) (u := 44) rfl
  have pf_qp := ip qp f_qp
  obtain ⟨qc, f_qc, g_qc⟩ := hx_rf hT gx tt_9 (k := 10) (u := 45) rfl
  have pf_qc := ic qc f_qc
  obtain ⟨qh, f_qh, g_qh⟩ := hx_rf hT gx tt_9 (k := 12) (u := 46) rfl
  have pf_qh := ih qh f_qh
  obtain ⟨qw, f_qw, g_qw⟩ := hx_rf hT gx tt_9 (k := 19) (u := 8) rfl
  obtain ⟨ql, f_ql, g_ql⟩ := hx_rf hT g_qw tt_8 (k := 3) (u := 40) rfl
  have pf_ql := il qw ql f_qw f_ql
  obtain ⟨nw, f_m_now⟩ : ∃ y : Int32, hl1.2.1 am 0 = y := ⟨_, rfl⟩
  have b_nw := hT.gi gm tt_10 (k := 0) rfl
  rw [f_m_now] at b_nw
  have b_nw : 0 ≤ nw.toInt ∧ nw.toInt ≤ 7999 := b_nw
  obtain ⟨np, f_m_persons⟩ : ∃ y : Int32, hl1.2.1 am 20 = y := ⟨_, rfl⟩
  have b_np := hT.gi gm tt_10 (k := 20) rfl
  rw [f_m_persons] at b_np
  have b_np : 0 ≤ np.toInt ∧ np.toInt ≤ 40 := b_np
  obtain ⟨c0, f_m_claims⟩ : ∃ y : Int32, hl1.2.1 am 36 = y := ⟨_, rfl⟩
  have b_c0 := hT.gi gm tt_10 (k := 36) rfl
  rw [f_m_claims] at b_c0
  have b_c0 : 0 ≤ c0.toInt ∧ c0.toInt ≤ 100 := b_c0
  obtain ⟨ln, f_m_lines⟩ : ∃ y : Int32, hl1.2.1 am 29 = y := ⟨_, rfl⟩
  have b_ln := hT.gi gm tt_10 (k := 29) rfl
  rw [f_m_lines] at b_ln
  have b_ln : 0 ≤ ln.toInt ∧ ln.toInt ≤ 400 := b_ln
  obtain ⟨a0, f_m_acts⟩ : ∃ y : Int32, hl1.2.1 am 1 = y := ⟨_, rfl⟩
  have b_a0 := hT.gi gm tt_10 (k := 1) rfl
  rw [f_m_acts] at b_a0
  have b_a0 : 0 ≤ a0.toInt ∧ a0.toInt ≤ 8 := b_a0
  obtain ⟨m0, f_m_heardMany⟩ : ∃ y : Int32, hl1.2.1 am 57 = y := ⟨_, rfl⟩
  have b_m0 := hT.gi gm tt_10 (k := 57) rfl
  rw [f_m_heardMany] at b_m0
  have b_m0 : 0 ≤ m0.toInt ∧ m0.toInt ≤ 100 := b_m0
  have f_x_now : hl1.2.1 ax 2 = nw := he_nw.trans f_m_now
  have f_x_personCount : hl1.2.1 ax 8 = np := he_np.trans f_m_persons
  have f_x_claimCount : hl1.2.1 ax 11 = c0 := he_c0.trans f_m_claims
  obtain ⟨mw, f_mw, g_mw⟩ := hx_rf hT gm tt_10 (k := 19) (u := 57) rfl
  obtain ⟨F_mw, n_mw⟩ : ∃ g : Nat → Int32, hl1.2.1 mw = g := ⟨_, rfl⟩
  obtain ⟨mr, f_mr, g_mr⟩ := hx_rf hT gm tt_10 (k := 3) (u := 50) rfl
  obtain ⟨F_mr, n_mr⟩ : ∃ g : Nat → Int32, hl1.2.1 mr = g := ⟨_, rfl⟩
  obtain ⟨mp, f_mp, g_mp⟩ := hx_rf hT gm tt_10 (k := 5) (u := 52) rfl
  obtain ⟨F_mp, n_mp⟩ : ∃ g : Nat → Int32, hl1.2.1 mp = g := ⟨_, rfl⟩
  obtain ⟨mn, f_mn, g_mn⟩ := hx_rf hT gm tt_10 (k := 4) (u := 51) rfl
  obtain ⟨F_mn, n_mn⟩ : ∃ g : Nat → Int32, hl1.2.1 mn = g := ⟨_, rfl⟩
  obtain ⟨ml, f_ml, g_ml⟩ := hx_rf hT gm tt_10 (k := 44) (u := 79) rfl
  obtain ⟨F_ml, n_ml⟩ : ∃ g : Nat → Int32, hl1.2.1 ml = g := ⟨_, rfl⟩
  obtain ⟨mh, f_mh, g_mh⟩ := hx_rf hT gm tt_10 (k := 47) (u := 82) rfl
  obtain ⟨F_mh, n_mh⟩ : ∃ g : Nat → Int32, hl1.2.1 mh = g := ⟨_, rfl⟩
  obtain ⟨mt, f_mt, g_mt⟩ := hx_rf hT gm tt_10 (k := 45) (u := 80) rfl
  obtain ⟨F_mt, n_mt⟩ : ∃ g : Nat → Int32, hl1.2.1 mt = g := ⟨_, rfl⟩
  obtain ⟨qo_ln, f_qo_ln, g_qo_ln⟩ := hx_rf hT gx tt_9 (k := 9) (u := 1) rfl
  have f_o_ln : hl1.2.1 qo_ln 0 = ln := (ho_ln qo_ln f_qo_ln).trans f_m_lines
  have nu_qp := hn_qp qp f_qp; rw [f_x_personCount] at nu_qp
  obtain ⟨c_dead, cl_dead⟩ : ∃ g : Nat → Int32, hx_col 40 hl1 qp 7 = g := ⟨_, rfl⟩
  obtain ⟨m_dead, f_m_dead, g_m_dead⟩ := hx_rf hT gm tt_10 (k := 27) (u := 64) rfl
  obtain ⟨F_dead, n_dead⟩ : ∃ g : Nat → Int32, hl1.2.1 m_dead = g := ⟨_, rfl⟩
  have eq_dead := hc_dead qp m_dead f_qp f_m_dead; rw [cl_dead, n_dead] at eq_dead
  have z_dead : np.toInt.toNat < 40 → c_dead np.toInt.toNat = 0 := fun hj => hx_num_z nu_qp cl_dead hj (by omega)
  obtain ⟨c_isj, cl_isj⟩ : ∃ g : Nat → Int32, hx_col 40 hl1 qp 8 = g := ⟨_, rfl⟩
  obtain ⟨m_isj, f_m_isj, g_m_isj⟩ := hx_rf hT gm tt_10 (k := 28) (u := 65) rfl
  obtain ⟨F_isj, n_isj⟩ : ∃ g : Nat → Int32, hl1.2.1 m_isj = g := ⟨_, rfl⟩
  have eq_isj := hc_isj qp m_isj f_qp f_m_isj; rw [cl_isj, n_isj] at eq_isj
  have z_isj : np.toInt.toNat < 40 → c_isj np.toInt.toNat = 0 := fun hj => hx_num_z nu_qp cl_isj hj (by omega)
  have hwd := jw mw f_mw; rw [n_mw] at hwd
  have hWK := jr mr f_mr; rw [n_mr, f_m_acts] at hWK
  have hRP := jp mp mn f_mp f_mn; rw [n_mp, n_mn, f_m_acts] at hRP
  have hPL := jl ml f_ml; rw [n_ml, f_m_claims, f_m_acts] at hPL
  have hHC := jh mh f_mh; rw [n_mh, f_m_heardMany, f_m_claims] at hHC
  have hTR := jt mt f_mt; rw [n_mt] at hTR
  refine lv_aload_n hx hb dL_law_987 rfl (lv_at hl 2 rfl) ?_
  refine lv_aload_n hx hb dL_law_988 rfl (lv_at hl 3 rfl) ?_
  refine lv_iload_n hx hb dL_law_989 rfl (lv_at hl 0 rfl) ?_
  refine lv_iconst (v := 1) hx hb dL_law_990 (by decide) ?_
  refine lv_iadd hx hb dL_law_991 ?_
  have rg_449 := i32_r i
  refine lv_topi (fun x_450 ex_450 => ?_)
  have zx_450 : x_450.toInt = i.toInt + 1 := by rw [ex_450]; exact i32_add rfl (by decide) (by omega) (by omega)
  refine va_sld hx hb hX hbl hbA hW.2.2.2.1 (vp_in_iff.mpr ⟨by omega, by omega⟩) dL_law_992 ?_
  refine lv_topi (fun x_451 ex_451 => ?_)
  refine lv_aload_n hx hb dL_law_993 rfl (lv_at hl 3 rfl) ?_
  refine lv_iload_n hx hb dL_law_994 rfl (lv_at hl 0 rfl) ?_
  refine lv_iconst (v := 2) hx hb dL_law_995 (by decide) ?_
  refine lv_iadd hx hb dL_law_996 ?_
  refine lv_topi (fun x_452 ex_452 => ?_)
  have zx_452 : x_452.toInt = i.toInt + 2 := by rw [ex_452]; exact i32_add rfl (by decide) (by omega) (by omega)
  refine va_sld hx hb hX hbl hbA hW.2.2.2.1 (vp_in_iff.mpr ⟨by omega, by omega⟩) dL_law_997 ?_
  refine lv_topi (fun x_453 ex_453 => ?_)
  have hTo := hT
  refine hx_goi (hx_runVX (As := [.int x_451, .int x_453]) (rest := []) ⟨hx, hb, hml, hown, hts⟩ hW gx tt_9 (T := TX9) (N := 20) rfl (t_X9_seize l dC dI dA L1 hl1 H.size b0 ax x_451 x_453 hT gx qc g_qc f_qc pf_qc) hZ (cwV 2 hts (hx_gV kw_903 kw_900 kw_901 kw_902 kw_94) rfl rfl rfl (by decide +kernel) ⟨Nat.le_of_ble_eq_true rfl, Nat.le_of_ble_eq_true rfl⟩) rfl hl.1 rfl (Nat.le_of_ble_eq_true rfl) dL_law_998 ⟨(show CC + 0 ≤ 600000 from by omega), (show SS + 0 ≤ 7302250 from by omega)⟩) hW (fun r_456 L_454 h_455 H locs p_457 hW => ?_)
  obtain ⟨hr_458, hT, hs⟩ := p_457
  have hT : hx_T T_tb L_454 h_455 := hT
  have hs : hx_S T_tb [(2, 16), (2, 17)] L1 hl1 L_454 h_455 := hs
  have f_qa := (hs.o gx trivial rfl).2.trans f_qa
  have f_qp := (hs.o gx trivial rfl).2.trans f_qp
  have f_qc := (hs.o gx trivial rfl).2.trans f_qc
  have f_qh := (hs.o gx trivial rfl).2.trans f_qh
  have f_qw := (hs.o gx trivial rfl).2.trans f_qw
  have f_ql := (hs.o g_qw trivial rfl).2.trans f_ql
  have f_m_now := (hs.o gm trivial rfl).1.trans f_m_now
  have f_m_persons := (hs.o gm trivial rfl).1.trans f_m_persons
  have f_m_claims := (hs.o gm trivial rfl).1.trans f_m_claims
  have f_m_lines := (hs.o gm trivial rfl).1.trans f_m_lines
  have f_m_acts := (hs.o gm trivial rfl).1.trans f_m_acts
  have f_m_heardMany := (hs.o gm trivial rfl).1.trans f_m_heardMany
  have f_x_now := (hs.o gx trivial rfl).1.trans f_x_now
  have f_x_personCount := (hs.o gx trivial rfl).1.trans f_x_personCount
  have f_x_claimCount := (hs.o gx trivial rfl).1.trans f_x_claimCount
  have f_mw := (hs.o gm trivial rfl).2.trans f_mw
  have f_mr := (hs.o gm trivial rfl).2.trans f_mr
  have f_mp := (hs.o gm trivial rfl).2.trans f_mp
  have f_mn := (hs.o gm trivial rfl).2.trans f_mn
  have f_ml := (hs.o gm trivial rfl).2.trans f_ml
  have f_mh := (hs.o gm trivial rfl).2.trans f_mh
  have f_mt := (hs.o gm trivial rfl).2.trans f_mt
  have f_qo_ln := (hs.o gx trivial rfl).2.trans f_qo_ln
  have f_o_ln := (hs.o g_qo_ln trivial rfl).1.trans f_o_ln
  have f_m_dead := (hs.o gm trivial rfl).2.trans f_m_dead
  have f_m_isj := (hs.o gm trivial rfl).2.trans f_m_isj
  have pf_qa : ∀ j : Nat, (j : Int) < (h_455.2.1 ax 6).toInt → h_455.2.2 qa j ≠ none := by
    intro j hj; rw [(hs.o gx trivial rfl).1] at hj; rw [(hs.a g_qa rfl j).2]; exact pf_qa j hj
  have pf_qp : ∀ j : Nat, (j : Int) < (h_455.2.1 ax 8).toInt → h_455.2.2 qp j ≠ none := by
    intro j hj; rw [(hs.o gx trivial rfl).1] at hj; rw [(hs.a g_qp rfl j).2]; exact pf_qp j hj
  have pf_qc : ∀ j : Nat, (j : Int) < (h_455.2.1 ax 11).toInt → h_455.2.2 qc j ≠ none := by
    intro j hj; rw [(hs.o gx trivial rfl).1] at hj; rw [(hs.a g_qc rfl j).2]; exact pf_qc j hj
  have pf_qh : ∀ j : Nat, (j : Int) < (h_455.2.1 ax 13).toInt → h_455.2.2 qh j ≠ none := by
    intro j hj; rw [(hs.o gx trivial rfl).1] at hj; rw [(hs.a g_qh rfl j).2]; exact pf_qh j hj
  have pf_ql : ∀ j : Nat, (j : Int) < (h_455.2.1 qw 0).toInt → h_455.2.2 ql j ≠ none := by
    intro j hj; rw [(hs.o g_qw trivial rfl).1] at hj; rw [(hs.a g_ql rfl j).2]; exact pf_ql j hj
  have cl_dead : hx_col 40 h_455 qp 7 = c_dead := (hx_col_S hs hTo g_qp tt_44 tt_4 rfl rfl).trans cl_dead
  have cl_isj : hx_col 40 h_455 qp 8 = c_isj := (hx_col_S hs hTo g_qp tt_44 tt_4 rfl rfl).trans cl_isj
  have nu_qp : hx_num 40 h_455 qp 0 (np.toInt) := hx_num_S hs hTo g_qp tt_44 tt_4 rfl rfl nu_qp
  have n_mw : h_455.2.1 mw = F_mw := (funext fun j => (hs.a g_mw rfl j).1).trans n_mw
  have n_mr : h_455.2.1 mr = F_mr := (funext fun j => (hs.a g_mr rfl j).1).trans n_mr
  have n_mp : h_455.2.1 mp = F_mp := (funext fun j => (hs.a g_mp rfl j).1).trans n_mp
  have n_mn : h_455.2.1 mn = F_mn := (funext fun j => (hs.a g_mn rfl j).1).trans n_mn
  have n_ml : h_455.2.1 ml = F_ml := (funext fun j => (hs.a g_ml rfl j).1).trans n_ml
  have n_mh : h_455.2.1 mh = F_mh := (funext fun j => (hs.a g_mh rfl j).1).trans n_mh
  have n_mt : h_455.2.1 mt = F_mt := (funext fun j => (hs.a g_mt rfl j).1).trans n_mt
  have n_dead : h_455.2.1 m_dead = F_dead := (funext fun j => (hs.a g_m_dead rfl j).1).trans n_dead
  have n_isj : h_455.2.1 m_isj = F_isj := (funext fun j => (hs.a g_m_isj rfl j).1).trans n_isj
  have gx := gx.S hs
  have gm := gm.S hs
  have g_qa := g_qa.S hs
  have g_qp := g_qp.S hs
  have g_qc := g_qc.S hs
  have g_qh := g_qh.S hs
  have g_qw := g_qw.S hs
  have g_ql := g_ql.S hs
  have g_mw := g_mw.S hs
  have g_mr := g_mr.S hs
  have g_mp := g_mp.S hs
  have g_mn := g_mn.S hs
  have g_ml := g_ml.S hs
  have g_mh := g_mh.S hs
  have g_mt := g_mt.S hs
  have g_qo_ln := g_qo_ln.S hs
  have g_m_dead := g_m_dead.S hs
  have g_m_isj := g_m_isj.S hs
  refine lv_pop hx hb dL_law_1001 rfl ?_
  refine lv_aload_n hx hb dL_law_1002 rfl (lv_at hl 1 rfl) ?_
  refine lv_aload_n hx hb dL_law_1003 rfl (lv_at hl 3 rfl) ?_
  refine lv_iload_n hx hb dL_law_1004 rfl (lv_at hl 0 rfl) ?_
  refine lv_iconst (v := 1) hx hb dL_law_1005 (by decide) ?_
  refine lv_iadd hx hb dL_law_1006 ?_
  refine lv_topi (fun x_459 ex_459 => ?_)
  have zx_459 : x_459.toInt = i.toInt + 1 := by rw [ex_459]; exact i32_add rfl (by decide) (by omega) (by omega)
  obtain rfl : x_450 = x_459 := ex_450.trans ex_459.symm
  refine va_sld hx hb hX hbl hbA hW.2.2.2.1 (vp_in_iff.mpr ⟨by omega, by omega⟩) dL_law_1007 ?_
  refine lv_topi (fun x_460 ex_460 => ?_)
  obtain rfl : x_451 = x_460 := ex_451.trans ex_460.symm
  refine lv_aload_n hx hb dL_law_1008 rfl (lv_at hl 3 rfl) ?_
  refine lv_iload_n hx hb dL_law_1009 rfl (lv_at hl 0 rfl) ?_
  refine lv_iconst (v := 2) hx hb dL_law_1010 (by decide) ?_
  refine lv_iadd hx hb dL_law_1011 ?_
  refine lv_topi (fun x_461 ex_461 => ?_)
  have zx_461 : x_461.toInt = i.toInt + 2 := by rw [ex_461]; exact i32_add rfl (by decide) (by omega) (by omega)
  obtain rfl : x_452 = x_461 := ex_452.trans ex_461.symm
  refine va_sld hx hb hX hbl hbA hW.2.2.2.1 (vp_in_iff.mpr ⟨by omega, by omega⟩) dL_law_1012 ?_
  refine lv_topi (fun x_462 ex_462 => ?_)
  obtain rfl : x_453 = x_462 := ex_453.trans ex_462.symm
  have hTo := hT
  refine hx_goi (hx_runV (As := [.int x_451, .int x_453]) (rest := []) ⟨hx, hb, hml, hown, hts⟩ hW gm tt_10 (T := TX10) (N := 98) rfl (t_X10_seize l dC dI dA L_454 h_455 H.size am x_451 x_453 hT gm) (cwV 2 hts (hx_gV kw_1661 kw_1658 kw_1659 kw_1660 kw_103) rfl rfl rfl (by decide +kernel) ⟨Nat.le_of_ble_eq_true rfl, Nat.le_of_ble_eq_true rfl⟩) rfl hl.1 rfl (Nat.le_of_ble_eq_true rfl) dL_law_1013 ⟨(show CC + 0 + 0 ≤ 600000 from by omega), (show SS + 0 + 0 ≤ 7302250 from by omega)⟩) hW (fun r_465 L_463 h_464 H locs p_466 hW => ?_)
  obtain ⟨hr_467, hT, hs⟩ := p_466
  have hT : hx_T T_tb L_463 h_464 := hT
  have hs : hx_S T_tb [(10, 67), (10, 68), (10, 69), (10, 70), (10, 71), (84, 0), (91, 0)] L_454 h_455 L_463 h_464 := hs
  have f_qa := (hs.o gx trivial rfl).2.trans f_qa
  have f_qp := (hs.o gx trivial rfl).2.trans f_qp
  have f_qc := (hs.o gx trivial rfl).2.trans f_qc
  have f_qh := (hs.o gx trivial rfl).2.trans f_qh
  have f_qw := (hs.o gx trivial rfl).2.trans f_qw
  have f_ql := (hs.o g_qw trivial rfl).2.trans f_ql
  have f_m_now := (hs.o gm trivial rfl).1.trans f_m_now
  have f_m_persons := (hs.o gm trivial rfl).1.trans f_m_persons
  have f_m_claims := (hs.o gm trivial rfl).1.trans f_m_claims
  have f_m_lines := (hs.o gm trivial rfl).1.trans f_m_lines
  have f_m_acts := (hs.o gm trivial rfl).1.trans f_m_acts
  have f_m_heardMany := (hs.o gm trivial rfl).1.trans f_m_heardMany
  have f_x_now := (hs.o gx trivial rfl).1.trans f_x_now
  have f_x_personCount := (hs.o gx trivial rfl).1.trans f_x_personCount
  have f_x_claimCount := (hs.o gx trivial rfl).1.trans f_x_claimCount
  have f_mw := (hs.o gm trivial rfl).2.trans f_mw
  have f_mr := (hs.o gm trivial rfl).2.trans f_mr
  have f_mp := (hs.o gm trivial rfl).2.trans f_mp
  have f_mn := (hs.o gm trivial rfl).2.trans f_mn
  have f_ml := (hs.o gm trivial rfl).2.trans f_ml
  have f_mh := (hs.o gm trivial rfl).2.trans f_mh
  have f_mt := (hs.o gm trivial rfl).2.trans f_mt
  have f_qo_ln := (hs.o gx trivial rfl).2.trans f_qo_ln
  have f_o_ln := (hs.o g_qo_ln trivial rfl).1.trans f_o_ln
  have f_m_dead := (hs.o gm trivial rfl).2.trans f_m_dead
  have f_m_isj := (hs.o gm trivial rfl).2.trans f_m_isj
  have pf_qa : ∀ j : Nat, (j : Int) < (h_464.2.1 ax 6).toInt → h_464.2.2 qa j ≠ none := by
    intro j hj; rw [(hs.o gx trivial rfl).1] at hj; rw [(hs.a g_qa rfl j).2]; exact pf_qa j hj
  have pf_qp : ∀ j : Nat, (j : Int) < (h_464.2.1 ax 8).toInt → h_464.2.2 qp j ≠ none := by
    intro j hj; rw [(hs.o gx trivial rfl).1] at hj; rw [(hs.a g_qp rfl j).2]; exact pf_qp j hj
  have pf_qc : ∀ j : Nat, (j : Int) < (h_464.2.1 ax 11).toInt → h_464.2.2 qc j ≠ none := by
    intro j hj; rw [(hs.o gx trivial rfl).1] at hj; rw [(hs.a g_qc rfl j).2]; exact pf_qc j hj
  have pf_qh : ∀ j : Nat, (j : Int) < (h_464.2.1 ax 13).toInt → h_464.2.2 qh j ≠ none := by
    intro j hj; rw [(hs.o gx trivial rfl).1] at hj; rw [(hs.a g_qh rfl j).2]; exact pf_qh j hj
  have pf_ql : ∀ j : Nat, (j : Int) < (h_464.2.1 qw 0).toInt → h_464.2.2 ql j ≠ none := by
    intro j hj; rw [(hs.o g_qw trivial rfl).1] at hj; rw [(hs.a g_ql rfl j).2]; exact pf_ql j hj
  have cl_dead : hx_col 40 h_464 qp 7 = c_dead := (hx_col_S hs hTo g_qp tt_44 tt_4 rfl rfl).trans cl_dead
  have cl_isj : hx_col 40 h_464 qp 8 = c_isj := (hx_col_S hs hTo g_qp tt_44 tt_4 rfl rfl).trans cl_isj
  have nu_qp : hx_num 40 h_464 qp 0 (np.toInt) := hx_num_S hs hTo g_qp tt_44 tt_4 rfl rfl nu_qp
  have n_mw : h_464.2.1 mw = F_mw := (funext fun j => (hs.a g_mw rfl j).1).trans n_mw
  have n_mr : h_464.2.1 mr = F_mr := (funext fun j => (hs.a g_mr rfl j).1).trans n_mr
  have n_mp : h_464.2.1 mp = F_mp := (funext fun j => (hs.a g_mp rfl j).1).trans n_mp
  have n_mn : h_464.2.1 mn = F_mn := (funext fun j => (hs.a g_mn rfl j).1).trans n_mn
  have n_ml : h_464.2.1 ml = F_ml := (funext fun j => (hs.a g_ml rfl j).1).trans n_ml
  have n_mh : h_464.2.1 mh = F_mh := (funext fun j => (hs.a g_mh rfl j).1).trans n_mh
  have n_mt : h_464.2.1 mt = F_mt := (funext fun j => (hs.a g_mt rfl j).1).trans n_mt
  have n_dead : h_464.2.1 m_dead = F_dead := (funext fun j => (hs.a g_m_dead rfl j).1).trans n_dead
  have n_isj : h_464.2.1 m_isj = F_isj := (funext fun j => (hs.a g_m_isj rfl j).1).trans n_isj
  have gx := gx.S hs
  have gm := gm.S hs
  have g_qa := g_qa.S hs
  have g_qp := g_qp.S hs
  have g_qc := g_qc.S hs
  have g_qh := g_qh.S hs
  have g_qw := g_qw.S hs
  have g_ql := g_ql.S hs
  have g_mw := g_mw.S hs
  have g_mr := g_mr.S hs
  have g_mp := g_mp.S hs
  have g_mn := g_mn.S hs
  have g_ml := g_ml.S hs
  have g_mh := g_mh.S hs
  have g_mt := g_mt.S hs
  have g_qo_ln := g_qo_ln.S hs
  have g_m_dead := g_m_dead.S hs
  have g_m_isj := g_m_isj.S hs
  refine lv_pop hx hb dL_law_1016 rfl ?_
  refine lv_goto (tgt := 1379) hx hb dL_law_1017 (by decide) ?_
  refine W.widen (k := CC + 3) (n := SS + 179) (by omega) (by omega) ?_
  exact kk L_463 h_464 H locs ls hW ⟨hT, gx, gm, ⟨f_x_now.trans f_m_now.symm, f_x_personCount.trans f_m_persons.symm, f_x_claimCount.trans f_m_claims.symm, hx_ob f_qo_ln (f_o_ln.trans f_m_lines.symm), hx_ob f_qp (by rw [f_x_personCount]; exact nu_qp), hx_ob2 f_qp f_m_dead (by rw [cl_dead, n_dead]; exact eq_dead), hx_ob2 f_qp f_m_isj (by rw [cl_isj, n_isj]; exact eq_isj), trivial⟩, ⟨hx_ob f_qa pf_qa, hx_ob f_qp pf_qp, hx_ob f_qc pf_qc, hx_ob f_qh pf_qh, (fun w q hw hq => by obtain rfl : qw = w := Option.some.inj (f_qw.symm.trans hw); obtain rfl : ql = q := Option.some.inj (f_ql.symm.trans hq); exact pf_ql)⟩, ⟨hx_ob f_mw (by rw [n_mw]; exact hwd), hx_ob f_mr (by rw [n_mr, f_m_acts]; exact hWK), hx_ob2 f_mp f_mn (by rw [n_mp, n_mn, f_m_acts]; exact hRP), hx_ob f_ml (by rw [n_ml, f_m_claims, f_m_acts]; exact hPL), hx_ob f_mh (by rw [n_mh, f_m_heardMany, f_m_claims]; exact hHC), hx_ob f_mt (by rw [n_mt]; exact (hx_TR_le hTR (by omega)))⟩⟩ hl

set_option maxHeartbeats 4000000 in
set_option maxRecDepth 100000 in
theorem law_case_18 {p : Program} {e : Env} {s : State} {m : MethodId} {below : List Frame} {meth : Method} {c : Code} (l : Launch) {b LN : Nat} {xs : Nat → Int32} (hx : p.tables.exec = Jvm.exec) (hb : c.code = code) (hr : meth.sig.returnType = ret) (hlocks : meth.locks = false) (hml : c.maxLocals = 4) (hown : s.vm.findClass "SmallCourtLaw" = some m.cls) (hts : ∀ w ∈ hx_all, w.before #[Value.ref b] s = true) (hX : va_X b LN xs s s.heap) (hbl : b < s.heap.size) (hbA : ¬ s.heap.size ≤ b) (hLN : LN ≤ 3584) (dC : Nat → ClassId) (dI : Nat → Nat → Nat) (dA : Nat → ClassId) (b0 : hx_z) (ax am : Nat) (T1 : Int) (hT0 : 0 ≤ T1) (hT1 : T1 ≤ 511) (i : Int32) (hi0 : 0 ≤ i.toInt) (hiL : i.toInt + 7 ≤ LN) (CC SS : Nat) (hCC : CC + 3 ≤ 600000) (hSS : SS + 179 ≤ 7302250) (L1 : List Nat) (hl1 : hx_h) (H : Heap) (locs : List Loc) (ls : Array Slot) (hW : hx_W T_tb (P_ty dA) (dC, dI) vwCl (fun q : Nat => s.heap.size ≤ q) s.heap L1 hl1 s H locs) (hZ : hx_Xt (fun q : Nat => s.heap.size ≤ q) b0 s) (hI : hx_IV T1 ax am L1 hl1) (hl : lv_has ls 4 [(3, .int i), (2, .ref am), (1, .ref ax), (0, .ref b)]) (kk : ∀ (L2 : List Nat) (h2 : hx_h) (H2 : Heap) (locs2 : List Loc) (ls2 : Array Slot), hx_W T_tb (P_ty dA) (dC, dI) vwCl (fun q : Nat => s.heap.size ≤ q) s.heap L2 h2 s H2 locs2 → hx_IV (T1 + 1) ax am L2 h2 → lv_has ls2 4 [(3, .int i), (2, .ref am), (1, .ref ax), (0, .ref b)] → W p l e room_1 s m #[Value.ref b] below meth c H2 locs2 (CC + 3) (SS + 179) (lw_Z below #[Value.ref b] s) (F0 m 1379 ls2 [])) : W p l e room_1 s m #[Value.ref b] below meth c H locs CC SS (lw_Z below #[Value.ref b] s) (F0 m 1020 ls []) := by
  obtain ⟨hT, gx, gm, ⟨he_nw, he_np, he_c0, ho_ln, hn_qp, hc_dead, hc_isj, -⟩, ⟨ia, ip, ic, ih, il⟩, ⟨jw, jr, jp, jl, jh, jt⟩⟩ := hI
  obtain ⟨qa, f_qa, g_qa⟩ := hx_rf hT gx tt_9 (k := 5) (u := 43) rfl
  have pf_qa := ia qa f_qa
  obtain ⟨qp, f_qp, g_qp⟩ := hx_rf hT gx tt_9 (k := 7) (u := 44) rfl
  have pf_qp := ip qp f_qp
  obtain ⟨qc, f_qc, g_qc⟩ := hx_rf hT gx tt_9 (k := 10) (u := 45) rfl
  have pf_qc := ic qc f_qc
  obtain ⟨qh, f_qh, g_qh⟩ := hx_rf hT gx tt_9 (k := 12) (u := 46) rfl
  have pf_qh := ih qh f_qh
  obtain ⟨qw, f_qw, g_qw⟩ := hx_rf hT gx tt_9 (k := 19) (u := 8) rfl
  obtain ⟨ql, f_ql, g_ql⟩ := hx_rf hT g_qw tt_8 (k := 3) (u := 40) rfl
  have pf_ql := il qw ql f_qw f_ql
  obtain ⟨nw, f_m_now⟩ : ∃ y : Int32, hl1.2.1 am 0 = y := ⟨_, rfl⟩
  have b_nw := hT.gi gm tt_10 (k := 0) rfl
  rw [f_m_now] at b_nw
  have b_nw : 0 ≤ nw.toInt ∧ nw.toInt ≤ 7999 := b_nw
  obtain ⟨np, f_m_persons⟩ : ∃ y : Int32, hl1.2.1 am 20 = y := ⟨_, rfl⟩
  have b_np := hT.gi gm tt_10 (k := 20) rfl
  rw [f_m_persons] at b_np
  have b_np : 0 ≤ np.toInt ∧ np.toInt ≤ 40 := b_np
  obtain ⟨c0, f_m_claims⟩ : ∃ y : Int32, hl1.2.1 am 36 = y := ⟨_, rfl⟩
  have b_c0 := hT.gi gm tt_10 (k := 36) rfl
  rw [f_m_claims] at b_c0
  have b_c0 : 0 ≤ c0.toInt ∧ c0.toInt ≤ 100 := b_c0
  obtain ⟨ln, f_m_lines⟩ : ∃ y : Int32, hl1.2.1 am 29 = y := ⟨_, rfl⟩
  have b_ln := hT.gi gm tt_10 (k := 29) rfl
  rw [f_m_lines] at b_ln
  have b_ln : 0 ≤ ln.toInt ∧ ln.toInt ≤ 400 := b_ln
  obtain ⟨a0, f_m_acts⟩ : ∃ y : Int32, hl1.2.1 am 1 = y := ⟨_, rfl⟩
  have b_a0 := hT.gi gm tt_10 (k := 1) rfl
  rw [f_m_acts] at b_a0
  have b_a0 : 0 ≤ a0.toInt ∧ a0.toInt ≤ 8 := b_a0
  obtain ⟨m0, f_m_heardMany⟩ : ∃ y : Int32, hl1.2.1 am 57 = y := ⟨_, rfl⟩
  have b_m0 := hT.gi gm tt_10 (k := 57) rfl
  rw [f_m_heardMany] at b_m0
  have b_m0 : 0 ≤ m0.toInt ∧ m0.toInt ≤ 100 := b_m0
  have f_x_now : hl1.2.1 ax 2 = nw := he_nw.trans f_m_now
  have f_x_personCount : hl1.2.1 ax 8 = np := he_np.trans f_m_persons
  have f_x_claimCount : hl1.2.1 ax 11 = c0 := he_c0.trans f_m_claims
  obtain ⟨mw, f_mw, g_mw⟩ := hx_rf hT gm tt_10 (k := 19) (u := 57) rfl
  obtain ⟨F_mw, n_mw⟩ : ∃ g : Nat → Int32, hl1.2.1 mw = g := ⟨_, rfl⟩
  obtain ⟨mr, f_mr, g_mr⟩ := hx_rf hT gm tt_10 (k := 3) (u := 50) rfl
  obtain ⟨F_mr, n_mr⟩ : ∃ g : Nat → Int32, hl1.2.1 mr = g := ⟨_, rfl⟩
  obtain ⟨mp, f_mp, g_mp⟩ := hx_rf hT gm tt_10 (k := 5) (u := 52) rfl
  obtain ⟨F_mp, n_mp⟩ : ∃ g : Nat → Int32, hl1.2.1 mp = g := ⟨_, rfl⟩
  obtain ⟨mn, f_mn, g_mn⟩ := hx_rf hT gm tt_10 (k := 4) (u := 51) rfl
  obtain ⟨F_mn, n_mn⟩ : ∃ g : Nat → Int32, hl1.2.1 mn = g := ⟨_, rfl⟩
  obtain ⟨ml, f_ml, g_ml⟩ := hx_rf hT gm tt_10 (k := 44) (u := 79) rfl
  obtain ⟨F_ml, n_ml⟩ : ∃ g : Nat → Int32, hl1.2.1 ml = g := ⟨_, rfl⟩
  obtain ⟨mh, f_mh, g_mh⟩ := hx_rf hT gm tt_10 (k := 47) (u := 82) rfl
  obtain ⟨F_mh, n_mh⟩ : ∃ g : Nat → Int32, hl1.2.1 mh = g := ⟨_, rfl⟩
  obtain ⟨mt, f_mt, g_mt⟩ := hx_rf hT gm tt_10 (k := 45) (u := 80) rfl
  obtain ⟨F_mt, n_mt⟩ : ∃ g : Nat → Int32, hl1.2.1 mt = g := ⟨_, rfl⟩
  obtain ⟨qo_ln, f_qo_ln, g_qo_ln⟩ := hx_rf hT gx tt_9 (k := 9) (u := 1) rfl
  have f_o_ln : hl1.2.1 qo_ln 0 = ln := (ho_ln qo_ln f_qo_ln).trans f_m_lines
  have nu_qp := hn_qp qp f_qp; rw [f_x_personCount] at nu_qp
  obtain ⟨c_dead, cl_dead⟩ : ∃ g : Nat → Int32, hx_col 40 hl1 qp 7 = g := ⟨_, rfl⟩
  obtain ⟨m_dead, f_m_dead, g_m_dead⟩ := hx_rf hT gm tt_10 (k := 27) (u := 64) rfl
  obtain ⟨F_dead, n_dead⟩ : ∃ g : Nat → Int32, hl1.2.1 m_dead = g := ⟨_, rfl⟩
  have eq_dead := hc_dead qp m_dead f_qp f_m_dead; rw [cl_dead, n_dead] at eq_dead
  have z_dead : np.toInt.toNat < 40 → c_dead np.toInt.toNat = 0 := fun hj => hx_num_z nu_qp cl_dead hj (by omega)
  obtain ⟨c_isj, cl_isj⟩ : ∃ g : Nat → Int32, hx_col 40 hl1 qp 8 = g := ⟨_, rfl⟩
  obtain ⟨m_isj, f_m_isj, g_m_isj⟩ := hx_rf hT gm tt_10 (k := 28) (u := 65) rfl
  obtain ⟨F_isj, n_isj⟩ : ∃ g : Nat → Int32, hl1.2.1 m_isj = g := ⟨_, rfl⟩
  have eq_isj := hc_isj qp m_isj f_qp f_m_isj; rw [cl_isj, n_isj] at eq_isj
  have z_isj : np.toInt.toNat < 40 → c_isj np.toInt.toNat = 0 := fun hj => hx_num_z nu_qp cl_isj hj (by omega)
  have hwd := jw mw f_mw; rw [n_mw] at hwd
  have hWK := jr mr f_mr; rw [n_mr, f_m_acts] at hWK
  have hRP := jp mp mn f_mp f_mn; rw [n_mp, n_mn, f_m_acts] at hRP
  have hPL := jl ml f_ml; rw [n_ml, f_m_claims, f_m_acts] at hPL
  have hHC := jh mh f_mh; rw [n_mh, f_m_heardMany, f_m_claims] at hHC
  have hTR := jt mt f_mt; rw [n_mt] at hTR
  refine lv_aload_n hx hb dL_law_1020 rfl (lv_at hl 2 rfl) ?_
  refine lv_aload_n hx hb dL_law_1021 rfl (lv_at hl 3 rfl) ?_
  refine lv_iload_n hx hb dL_law_1022 rfl (lv_at hl 0 rfl) ?_
  refine lv_iconst (v := 1) hx hb dL_law_1023 (by decide) ?_
  refine lv_iadd hx hb dL_law_1024 ?_
  have rg_468 := i32_r i
  refine lv_topi (fun x_469 ex_469 => ?_)
  have zx_469 : x_469.toInt = i.toInt + 1 := by rw [ex_469]; exact i32_add rfl (by decide) (by omega) (by omega)
  refine va_sld hx hb hX hbl hbA hW.2.2.2.1 (vp_in_iff.mpr ⟨by omega, by omega⟩) dL_law_1025 ?_
  refine lv_topi (fun x_470 ex_470 => ?_)
  have hTo := hT
  refine hx_goi (hx_runVX (As := [.int x_470]) (rest := []) ⟨hx, hb, hml, hown, hts⟩ hW gx tt_9 (T := TX9) (N := 20) rfl (t_X9_gaol l dC dI dA L1 hl1 H.size b0 ax x_470 hT gx qc g_qc f_qc pf_qc) hZ (cwV 1 hts (hx_gV kw_926 kw_923 kw_924 kw_925 kw_94) rfl rfl rfl (by decide +kernel) ⟨Nat.le_of_ble_eq_true rfl, Nat.le_of_ble_eq_true rfl⟩) rfl hl.1 rfl (Nat.le_of_ble_eq_true rfl) dL_law_1026 ⟨(show CC + 0 ≤ 600000 from by omega), (show SS + 0 ≤ 7302250 from by omega)⟩) hW (fun r_473 L_471 h_472 H locs p_474 hW => ?_)
  obtain ⟨hr_475, hT, hs⟩ := p_474
  have hT : hx_T T_tb L_471 h_472 := hT
  have hs : hx_S T_tb [(2, 18)] L1 hl1 L_471 h_472 := hs
  have f_qa := (hs.o gx trivial rfl).2.trans f_qa
  have f_qp := (hs.o gx trivial rfl).2.trans f_qp
  have f_qc := (hs.o gx trivial rfl).2.trans f_qc
  have f_qh := (hs.o gx trivial rfl).2.trans f_qh
  have f_qw := (hs.o gx trivial rfl).2.trans f_qw
  have f_ql := (hs.o g_qw trivial rfl).2.trans f_ql
  have f_m_now := (hs.o gm trivial rfl).1.trans f_m_now
  have f_m_persons := (hs.o gm trivial rfl).1.trans f_m_persons
  have f_m_claims := (hs.o gm trivial rfl).1.trans f_m_claims
  have f_m_lines := (hs.o gm trivial rfl).1.trans f_m_lines
  have f_m_acts := (hs.o gm trivial rfl).1.trans f_m_acts
  have f_m_heardMany := (hs.o gm trivial rfl).1.trans f_m_heardMany
  have f_x_now := (hs.o gx trivial rfl).1.trans f_x_now
  have f_x_personCount := (hs.o gx trivial rfl).1.trans f_x_personCount
  have f_x_claimCount := (hs.o gx trivial rfl).1.trans f_x_claimCount
  have f_mw := (hs.o gm trivial rfl).2.trans f_mw
  have f_mr := (hs.o gm trivial rfl).2.trans f_mr
  have f_mp := (hs.o gm trivial rfl).2.trans f_mp
  have f_mn := (hs.o gm trivial rfl).2.trans f_mn
  have f_ml := (hs.o gm trivial rfl).2.trans f_ml
  have f_mh := (hs.o gm trivial rfl).2.trans f_mh
  have f_mt := (hs.o gm trivial rfl).2.trans f_mt
  have f_qo_ln := (hs.o gx trivial rfl).2.trans f_qo_ln
  have f_o_ln := (hs.o g_qo_ln trivial rfl).1.trans f_o_ln
  have f_m_dead := (hs.o gm trivial rfl).2.trans f_m_dead
  have f_m_isj := (hs.o gm trivial rfl).2.trans f_m_isj
  have pf_qa : ∀ j : Nat, (j : Int) < (h_472.2.1 ax 6).toInt → h_472.2.2 qa j ≠ none := by
    intro j hj; rw [(hs.o gx trivial rfl).1] at hj; rw [(hs.a g_qa rfl j).2]; exact pf_qa j hj
  have pf_qp : ∀ j : Nat, (j : Int) < (h_472.2.1 ax 8).toInt → h_472.2.2 qp j ≠ none := by
    intro j hj; rw [(hs.o gx trivial rfl).1] at hj; rw [(hs.a g_qp rfl j).2]; exact pf_qp j hj
  have pf_qc : ∀ j : Nat, (j : Int) < (h_472.2.1 ax 11).toInt → h_472.2.2 qc j ≠ none := by
    intro j hj; rw [(hs.o gx trivial rfl).1] at hj; rw [(hs.a g_qc rfl j).2]; exact pf_qc j hj
  have pf_qh : ∀ j : Nat, (j : Int) < (h_472.2.1 ax 13).toInt → h_472.2.2 qh j ≠ none := by
    intro j hj; rw [(hs.o gx trivial rfl).1] at hj; rw [(hs.a g_qh rfl j).2]; exact pf_qh j hj
  have pf_ql : ∀ j : Nat, (j : Int) < (h_472.2.1 qw 0).toInt → h_472.2.2 ql j ≠ none := by
    intro j hj; rw [(hs.o g_qw trivial rfl).1] at hj; rw [(hs.a g_ql rfl j).2]; exact pf_ql j hj
  have cl_dead : hx_col 40 h_472 qp 7 = c_dead := (hx_col_S hs hTo g_qp tt_44 tt_4 rfl rfl).trans cl_dead
  have cl_isj : hx_col 40 h_472 qp 8 = c_isj := (hx_col_S hs hTo g_qp tt_44 tt_4 rfl rfl).trans cl_isj
  have nu_qp : hx_num 40 h_472 qp 0 (np.toInt) := hx_num_S hs hTo g_qp tt_44 tt_4 rfl rfl nu_qp
  have n_mw : h_472.2.1 mw = F_mw := (funext fun j => (hs.a g_mw rfl j).1).trans n_mw
  have n_mr : h_472.2.1 mr = F_mr := (funext fun j => (hs.a g_mr rfl j).1).trans n_mr
  have n_mp : h_472.2.1 mp = F_mp := (funext fun j => (hs.a g_mp rfl j).1).trans n_mp
  have n_mn : h_472.2.1 mn = F_mn := (funext fun j => (hs.a g_mn rfl j).1).trans n_mn
  have n_ml : h_472.2.1 ml = F_ml := (funext fun j => (hs.a g_ml rfl j).1).trans n_ml
  have n_mh : h_472.2.1 mh = F_mh := (funext fun j => (hs.a g_mh rfl j).1).trans n_mh
  have n_mt : h_472.2.1 mt = F_mt := (funext fun j => (hs.a g_mt rfl j).1).trans n_mt
  have n_dead : h_472.2.1 m_dead = F_dead := (funext fun j => (hs.a g_m_dead rfl j).1).trans n_dead
  have n_isj : h_472.2.1 m_isj = F_isj := (funext fun j => (hs.a g_m_isj rfl j).1).trans n_isj
  have gx := gx.S hs
  have gm := gm.S hs
  have g_qa := g_qa.S hs
  have g_qp := g_qp.S hs
  have g_qc := g_qc.S hs
  have g_qh := g_qh.S hs
  have g_qw := g_qw.S hs
  have g_ql := g_ql.S hs
  have g_mw := g_mw.S hs
  have g_mr := g_mr.S hs
  have g_mp := g_mp.S hs
  have g_mn := g_mn.S hs
  have g_ml := g_ml.S hs
  have g_mh := g_mh.S hs
  have g_mt := g_mt.S hs
  have g_qo_ln := g_qo_ln.S hs
  have g_m_dead := g_m_dead.S hs
  have g_m_isj := g_m_isj.S hs
  refine lv_pop hx hb dL_law_1029 rfl ?_
  refine lv_aload_n hx hb dL_law_1030 rfl (lv_at hl 1 rfl) ?_
  refine lv_aload_n hx hb dL_law_1031 rfl (lv_at hl 3 rfl) ?_
  refine lv_iload_n hx hb dL_law_1032 rfl (lv_at hl 0 rfl) ?_
  refine lv_iconst (v := 1) hx hb dL_law_1033 (by decide) ?_
  refine lv_iadd hx hb dL_law_1034 ?_
  refine lv_topi (fun x_476 ex_476 => ?_)
  have zx_476 : x_476.toInt = i.toInt + 1 := by rw [ex_476]; exact i32_add rfl (by decide) (by omega) (by omega)
  obtain rfl : x_469 = x_476 := ex_469.trans ex_476.symm
  refine va_sld hx hb hX hbl hbA hW.2.2.2.1 (vp_in_iff.mpr ⟨by omega, by omega⟩) dL_law_1035 ?_
  refine lv_topi (fun x_477 ex_477 => ?_)
  obtain rfl : x_470 = x_477 := ex_470.trans ex_477.symm
  have hTo := hT
  refine hx_goi (hx_runV (As := [.int x_470]) (rest := []) ⟨hx, hb, hml, hown, hts⟩ hW gm tt_10 (T := TX10) (N := 98) rfl (t_X10_gaol l dC dI dA L_471 h_472 H.size am x_470 hT gm) (cwV 1 hts (hx_gV kw_1665 kw_1662 kw_1663 kw_1664 kw_103) rfl rfl rfl (by decide +kernel) ⟨Nat.le_of_ble_eq_true rfl, Nat.le_of_ble_eq_true rfl⟩) rfl hl.1 rfl (Nat.le_of_ble_eq_true rfl) dL_law_1036 ⟨(show CC + 0 + 0 ≤ 600000 from by omega), (show SS + 0 + 0 ≤ 7302250 from by omega)⟩) hW (fun r_480 L_478 h_479 H locs p_481 hW => ?_)
  obtain ⟨hr_482, hT, hs⟩ := p_481
  have hT : hx_T T_tb L_478 h_479 := hT
  have hs : hx_S T_tb [(10, 67), (10, 68), (10, 69), (10, 70), (10, 71), (85, 0)] L_471 h_472 L_478 h_479 := hs
  have f_qa := (hs.o gx trivial rfl).2.trans f_qa
  have f_qp := (hs.o gx trivial rfl).2.trans f_qp
  have f_qc := (hs.o gx trivial rfl).2.trans f_qc
  have f_qh := (hs.o gx trivial rfl).2.trans f_qh
  have f_qw := (hs.o gx trivial rfl).2.trans f_qw
  have f_ql := (hs.o g_qw trivial rfl).2.trans f_ql
  have f_m_now := (hs.o gm trivial rfl).1.trans f_m_now
  have f_m_persons := (hs.o gm trivial rfl).1.trans f_m_persons
  have f_m_claims := (hs.o gm trivial rfl).1.trans f_m_claims
  have f_m_lines := (hs.o gm trivial rfl).1.trans f_m_lines
  have f_m_acts := (hs.o gm trivial rfl).1.trans f_m_acts
  have f_m_heardMany := (hs.o gm trivial rfl).1.trans f_m_heardMany
  have f_x_now := (hs.o gx trivial rfl).1.trans f_x_now
  have f_x_personCount := (hs.o gx trivial rfl).1.trans f_x_personCount
  have f_x_claimCount := (hs.o gx trivial rfl).1.trans f_x_claimCount
  have f_mw := (hs.o gm trivial rfl).2.trans f_mw
  have f_mr := (hs.o gm trivial rfl).2.trans f_mr
  have f_mp := (hs.o gm trivial rfl).2.trans f_mp
  have f_mn := (hs.o gm trivial rfl).2.trans f_mn
  have f_ml := (hs.o gm trivial rfl).2.trans f_ml
  have f_mh := (hs.o gm trivial rfl).2.trans f_mh
  have f_mt := (hs.o gm trivial rfl).2.trans f_mt
  have f_qo_ln := (hs.o gx trivial rfl).2.trans f_qo_ln
  have f_o_ln := (hs.o g_qo_ln trivial rfl).1.trans f_o_ln
  have f_m_dead := (hs.o gm trivial rfl).2.trans f_m_dead
  have f_m_isj := (hs.o gm trivial rfl).2.trans f_m_isj
  have pf_qa : ∀ j : Nat, (j : Int) < (h_479.2.1 ax 6).toInt → h_479.2.2 qa j ≠ none := by
    intro j hj; rw [(hs.o gx trivial rfl).1] at hj; rw [(hs.a g_qa rfl j).2]; exact pf_qa j hj
  have pf_qp : ∀ j : Nat, (j : Int) < (h_479.2.1 ax 8).toInt → h_479.2.2 qp j ≠ none := by
    intro j hj; rw [(hs.o gx trivial rfl).1] at hj; rw [(hs.a g_qp rfl j).2]; exact pf_qp j hj
  have pf_qc : ∀ j : Nat, (j : Int) < (h_479.2.1 ax 11).toInt → h_479.2.2 qc j ≠ none := by
    intro j hj; rw [(hs.o gx trivial rfl).1] at hj; rw [(hs.a g_qc rfl j).2]; exact pf_qc j hj
  have pf_qh : ∀ j : Nat, (j : Int) < (h_479.2.1 ax 13).toInt → h_479.2.2 qh j ≠ none := by
    intro j hj; rw [(hs.o gx trivial rfl).1] at hj; rw [(hs.a g_qh rfl j).2]; exact pf_qh j hj
  have pf_ql : ∀ j : Nat, (j : Int) < (h_479.2.1 qw 0).toInt → h_479.2.2 ql j ≠ none := by
    intro j hj; rw [(hs.o g_qw trivial rfl).1] at hj; rw [(hs.a g_ql rfl j).2]; exact pf_ql j hj
  have cl_dead : hx_col 40 h_479 qp 7 = c_dead := (hx_col_S hs hTo g_qp tt_44 tt_4 rfl rfl).trans cl_dead
  have cl_isj : hx_col 40 h_479 qp 8 = c_isj := (hx_col_S hs hTo g_qp tt_44 tt_4 rfl rfl).trans cl_isj
  have nu_qp : hx_num 40 h_479 qp 0 (np.toInt) := hx_num_S hs hTo g_qp tt_44 tt_4 rfl rfl nu_qp
  have n_mw : h_479.2.1 mw = F_mw := (funext fun j => (hs.a g_mw rfl j).1).trans n_mw
  have n_mr : h_479.2.1 mr = F_mr := (funext fun j => (hs.a g_mr rfl j).1).trans n_mr
  have n_mp : h_479.2.1 mp = F_mp := (funext fun j => (hs.a g_mp rfl j).1).trans n_mp
  have n_mn : h_479.2.1 mn = F_mn := (funext fun j => (hs.a g_mn rfl j).1).trans n_mn
  have n_ml : h_479.2.1 ml = F_ml := (funext fun j => (hs.a g_ml rfl j).1).trans n_ml
  have n_mh : h_479.2.1 mh = F_mh := (funext fun j => (hs.a g_mh rfl j).1).trans n_mh
  have n_mt : h_479.2.1 mt = F_mt := (funext fun j => (hs.a g_mt rfl j).1).trans n_mt
  have n_dead : h_479.2.1 m_dead = F_dead := (funext fun j => (hs.a g_m_dead rfl j).1).trans n_dead
  have n_isj : h_479.2.1 m_isj = F_isj := (funext fun j => (hs.a g_m_isj rfl j).1).trans n_isj
  have gx := gx.S hs
  have gm := gm.S hs
  have g_qa := g_qa.S hs
  have g_qp := g_qp.S hs
  have g_qc := g_qc.S hs
  have g_qh := g_qh.S hs
  have g_qw := g_qw.S hs
  have g_ql := g_ql.S hs
  have g_mw := g_mw.S hs
  have g_mr := g_mr.S hs
  have g_mp := g_mp.S hs
  have g_mn := g_mn.S hs
  have g_ml := g_ml.S hs
  have g_mh := g_mh.S hs
  have g_mt := g_mt.S hs
  have g_qo_ln := g_qo_ln.S hs
  have g_m_dead := g_m_dead.S hs
  have g_m_isj := g_m_isj.S hs
  refine lv_pop hx hb dL_law_1039 rfl ?_
  refine lv_goto (tgt := 1379) hx hb dL_law_1040 (by decide) ?_
  refine W.widen (k := CC + 3) (n := SS + 179) (by omega) (by omega) ?_
  exact kk L_478 h_479 H locs ls hW ⟨hT, gx, gm, ⟨f_x_now.trans f_m_now.symm, f_x_personCount.trans f_m_persons.symm, f_x_claimCount.trans f_m_claims.symm, hx_ob f_qo_ln (f_o_ln.trans f_m_lines.symm), hx_ob f_qp (by rw [f_x_personCount]; exact nu_qp), hx_ob2 f_qp f_m_dead (by rw [cl_dead, n_dead]; exact eq_dead), hx_ob2 f_qp f_m_isj (by rw [cl_isj, n_isj]; exact eq_isj), trivial⟩, ⟨hx_ob f_qa pf_qa, hx_ob f_qp pf_qp, hx_ob f_qc pf_qc, hx_ob f_qh pf_qh, (fun w q hw hq => by obtain rfl : qw = w := Option.some.inj (f_qw.symm.trans hw); obtain rfl : ql = q := Option.some.inj (f_ql.symm.trans hq); exact pf_ql)⟩, ⟨hx_ob f_mw (by rw [n_mw]; exact hwd), hx_ob f_mr (by rw [n_mr, f_m_acts]; exact hWK), hx_ob2 f_mp f_mn (by rw [n_mp, n_mn, f_m_acts]; exact hRP), hx_ob f_ml (by rw [n_ml, f_m_claims, f_m_acts]; exact hPL), hx_ob f_mh (by rw [n_mh, f_m_heardMany, f_m_claims]; exact hHC), hx_ob f_mt (by rw [n_mt]; exact (hx_TR_le hTR (by omega)))⟩⟩ hl

set_option maxHeartbeats 4000000 in
set_option maxRecDepth 100000 in
theorem law_case_19 {p : Program} {e : Env} {s : State} {m : MethodId} {below : List Frame} {meth : Method} {c : Code} (l : Launch) {b LN : Nat} {xs : Nat → Int32} (hx : p.tables.exec = Jvm.exec) (hb : c.code = code) (hr : meth.sig.returnType = ret) (hlocks : meth.locks = false) (hml : c.maxLocals = 4) (hown : s.vm.findClass "SmallCourtLaw" = some m.cls) (hts : ∀ w ∈ hx_all, w.before #[Value.ref b] s = true) (hX : va_X b LN xs s s.heap) (hbl : b < s.heap.size) (hbA : ¬ s.heap.size ≤ b) (hLN : LN ≤ 3584) (dC : Nat → ClassId) (dI : Nat → Nat → Nat) (dA : Nat → ClassId) (b0 : hx_z) (ax am : Nat) (T1 : Int) (hT0 : 0 ≤ T1) (hT1 : T1 ≤ 511) (i : Int32) (hi0 : 0 ≤ i.toInt) (hiL : i.toInt + 7 ≤ LN) (CC SS : Nat) (hCC : CC + 3 ≤ 600000) (hSS : SS + 179 ≤ 7302250) (L1 : List Nat) (hl1 : hx_h) (H : Heap) (locs : List Loc) (ls : Array Slot) (hW : hx_W T_tb (P_ty dA) (dC, dI) vwCl (fun q : Nat => s.heap.size ≤ q) s.heap L1 hl1 s H locs) (hZ : hx_Xt (fun q : Nat => s.heap.size ≤ q) b0 s) (hI : hx_IV T1 ax am L1 hl1) (hl : lv_has ls 4 [(3, .int i), (2, .ref am), (1, .ref ax), (0, .ref b)]) (kk : ∀ (L2 : List Nat) (h2 : hx_h) (H2 : Heap) (locs2 : List Loc) (ls2 : Array Slot), hx_W T_tb (P_ty dA) (dC, dI) vwCl (fun q : Nat => s.heap.size ≤ q) s.heap L2 h2 s H2 locs2 → hx_IV (T1 + 1) ax am L2 h2 → lv_has ls2 4 [(3, .int i), (2, .ref am), (1, .ref ax), (0, .ref b)] → W p l e room_1 s m #[Value.ref b] below meth c H2 locs2 (CC + 3) (SS + 179) (lw_Z below #[Value.ref b] s) (F0 m 1379 ls2 [])) : W p l e room_1 s m #[Value.ref b] below meth c H locs CC SS (lw_Z below #[Value.ref b] s) (F0 m 1043 ls []) := by
  obtain ⟨hT, gx, gm, ⟨he_nw, he_np, he_c0, ho_ln, hn_qp, hc_dead, hc_isj, -⟩, ⟨ia, ip, ic, ih, il⟩, ⟨jw, jr, jp, jl, jh, jt⟩⟩ := hI
  obtain ⟨qa, f_qa, g_qa⟩ := hx_rf hT gx tt_9 (k := 5) (u := 43) rfl
  have pf_qa := ia qa f_qa
  obtain ⟨qp, f_qp, g_qp⟩ := hx_rf hT gx tt_9 (k := 7) (u := 44) rfl
  have pf_qp := ip qp f_qp
  obtain ⟨qc, f_qc, g_qc⟩ := hx_rf hT gx tt_9 (k := 10) (u := 45) rfl
  have pf_qc := ic qc f_qc
  obtain ⟨qh, f_qh, g_qh⟩ := hx_rf hT gx tt_9 (k := 12) (u := 46) rfl
  have pf_qh := ih qh f_qh
  obtain ⟨qw, f_qw, g_qw⟩ := hx_rf hT gx tt_9 (k := 19) (u := 8) rfl
  obtain ⟨ql, f_ql, g_ql⟩ := hx_rf hT g_qw tt_8 (k := 3) (u := 40) rfl
  have pf_ql := il qw ql f_qw f_ql
  obtain ⟨nw, f_m_now⟩ : ∃ y : Int32, hl1.2.1 am 0 = y := ⟨_, rfl⟩
  have b_nw := hT.gi gm tt_10 (k := 0) rfl
  rw [f_m_now] at b_nw
  have b_nw : 0 ≤ nw.toInt ∧ nw.toInt ≤ 7999 := b_nw
  obtain ⟨np, f_m_persons⟩ : ∃ y : Int32, hl1.2.1 am 20 = y := ⟨_, rfl⟩
  have b_np := hT.gi gm tt_10 (k := 20) rfl
  rw [f_m_persons] at b_np
  have b_np : 0 ≤ np.toInt ∧ np.toInt ≤ 40 := b_np
  obtain ⟨c0, f_m_claims⟩ : ∃ y : Int32, hl1.2.1 am 36 = y := ⟨_, rfl⟩
  have b_c0 := hT.gi gm tt_10 (k := 36) rfl
  rw [f_m_claims] at b_c0
  have b_c0 : 0 ≤ c0.toInt ∧ c0.toInt ≤ 100 := b_c0
  obtain ⟨ln, f_m_lines⟩ : ∃ y : Int32, hl1.2.1 am 29 = y := ⟨_, rfl⟩
  have b_ln := hT.gi gm tt_10 (k := 29) rfl
  rw [f_m_lines] at b_ln
  have b_ln : 0 ≤ ln.toInt ∧ ln.toInt ≤ 400 := b_ln
  obtain ⟨a0, f_m_acts⟩ : ∃ y : Int32, hl1.2.1 am 1 = y := ⟨_, rfl⟩
  have b_a0 := hT.gi gm tt_10 (k := 1) rfl
  rw [f_m_acts] at b_a0
  have b_a0 : 0 ≤ a0.toInt ∧ a0.toInt ≤ 8 := b_a0
  obtain ⟨m0, f_m_heardMany⟩ : ∃ y : Int32, hl1.2.1 am 57 = y := ⟨_, rfl⟩
  have b_m0 := hT.gi gm tt_10 (k := 57) rfl
  rw [f_m_heardMany] at b_m0
  have b_m0 : 0 ≤ m0.toInt ∧ m0.toInt ≤ 100 := b_m0
  have f_x_now : hl1.2.1 ax 2 = nw := he_nw.trans f_m_now
  have f_x_personCount : hl1.2.1 ax 8 = np := he_np.trans f_m_persons
  have f_x_claimCount : hl1.2.1 ax 11 = c0 := he_c0.trans f_m_claims
  obtain ⟨mw, f_mw, g_mw⟩ := hx_rf hT gm tt_10 (k := 19) (u := 57) rfl
  obtain ⟨F_mw, n_mw⟩ : ∃ g : Nat → Int32, hl1.2.1 mw = g := ⟨_, rfl⟩
  obtain ⟨mr, f_mr, g_mr⟩ := hx_rf hT gm tt_10 (k := 3) (u := 50) rfl
  obtain ⟨F_mr, n_mr⟩ : ∃ g : Nat → Int32, hl1.2.1 mr = g := ⟨_, rfl⟩
  obtain ⟨mp, f_mp, g_mp⟩ := hx_rf hT gm tt_10 (k := 5) (u := 52) rfl
  obtain ⟨F_mp, n_mp⟩ : ∃ g : Nat → Int32, hl1.2.1 mp = g := ⟨_, rfl⟩
  obtain ⟨mn, f_mn, g_mn⟩ := hx_rf hT gm tt_10 (k := 4) (u := 51) rfl
  obtain ⟨F_mn, n_mn⟩ : ∃ g : Nat → Int32, hl1.2.1 mn = g := ⟨_, rfl⟩
  obtain ⟨ml, f_ml, g_ml⟩ := hx_rf hT gm tt_10 (k := 44) (u := 79) rfl
  obtain ⟨F_ml, n_ml⟩ : ∃ g : Nat → Int32, hl1.2.1 ml = g := ⟨_, rfl⟩
  obtain ⟨mh, f_mh, g_mh⟩ := hx_rf hT gm tt_10 (k := 47) (u := 82) rfl
  obtain ⟨F_mh, n_mh⟩ : ∃ g : Nat → Int32, hl1.2.1 mh = g := ⟨_, rfl⟩
  obtain ⟨mt, f_mt, g_mt⟩ := hx_rf hT gm tt_10 (k := 45) (u := 80) rfl
  obtain ⟨F_mt, n_mt⟩ : ∃ g : Nat → Int32, hl1.2.1 mt = g := ⟨_, rfl⟩
  obtain ⟨qo_ln, f_qo_ln, g_qo_ln⟩ := hx_rf hT gx tt_9 (k := 9) (u := 1) rfl
  have f_o_ln : hl1.2.1 qo_ln 0 = ln := (ho_ln qo_ln f_qo_ln).trans f_m_lines
  have nu_qp := hn_qp qp f_qp; rw [f_x_personCount] at nu_qp
  obtain ⟨c_dead, cl_dead⟩ : ∃ g : Nat → Int32, hx_col 40 hl1 qp 7 = g := ⟨_, rfl⟩
  obtain ⟨m_dead, f_m_dead, g_m_dead⟩ := hx_rf hT gm tt_10 (k := 27) (u := 64) rfl
  obtain ⟨F_dead, n_dead⟩ : ∃ g : Nat → Int32, hl1.2.1 m_dead = g := ⟨_, rfl⟩
  have eq_dead := hc_dead qp m_dead f_qp f_m_dead; rw [cl_dead, n_dead] at eq_dead
  have z_dead : np.toInt.toNat < 40 → c_dead np.toInt.toNat = 0 := fun hj => hx_num_z nu_qp cl_dead hj (by omega)
  obtain ⟨c_isj, cl_isj⟩ : ∃ g : Nat → Int32, hx_col 40 hl1 qp 8 = g := ⟨_, rfl⟩
  obtain ⟨m_isj, f_m_isj, g_m_isj⟩ := hx_rf hT gm tt_10 (k := 28) (u := 65) rfl
  obtain ⟨F_isj, n_isj⟩ : ∃ g : Nat → Int32, hl1.2.1 m_isj = g := ⟨_, rfl⟩
  have eq_isj := hc_isj qp m_isj f_qp f_m_isj; rw [cl_isj, n_isj] at eq_isj
  have z_isj : np.toInt.toNat < 40 → c_isj np.toInt.toNat = 0 := fun hj => hx_num_z nu_qp cl_isj hj (by omega)
  have hwd := jw mw f_mw; rw [n_mw] at hwd
  have hWK := jr mr f_mr; rw [n_mr, f_m_acts] at hWK
  have hRP := jp mp mn f_mp f_mn; rw [n_mp, n_mn, f_m_acts] at hRP
  have hPL := jl ml f_ml; rw [n_ml, f_m_claims, f_m_acts] at hPL
  have hHC := jh mh f_mh; rw [n_mh, f_m_heardMany, f_m_claims] at hHC
  have hTR := jt mt f_mt; rw [n_mt] at hTR
  refine lv_aload_n hx hb dL_law_1043 rfl (lv_at hl 2 rfl) ?_
  refine lv_aload_n hx hb dL_law_1044 rfl (lv_at hl 3 rfl) ?_
  refine lv_iload_n hx hb dL_law_1045 rfl (lv_at hl 0 rfl) ?_
  refine lv_iconst (v := 1) hx hb dL_law_1046 (by decide) ?_
  refine lv_iadd hx hb dL_law_1047 ?_
  have rg_483 := i32_r i
  refine lv_topi (fun x_484 ex_484 => ?_)
  have zx_484 : x_484.toInt = i.toInt + 1 := by rw [ex_484]; exact i32_add rfl (by decide) (by omega) (by omega)
  refine va_sld hx hb hX hbl hbA hW.2.2.2.1 (vp_in_iff.mpr ⟨by omega, by omega⟩) dL_law_1048 ?_
  refine lv_topi (fun x_485 ex_485 => ?_)
  refine lv_aload_n hx hb dL_law_1049 rfl (lv_at hl 3 rfl) ?_
  refine lv_iload_n hx hb dL_law_1050 rfl (lv_at hl 0 rfl) ?_
  refine lv_iconst (v := 2) hx hb dL_law_1051 (by decide) ?_
  refine lv_iadd hx hb dL_law_1052 ?_
  refine lv_topi (fun x_486 ex_486 => ?_)
  have zx_486 : x_486.toInt = i.toInt + 2 := by rw [ex_486]; exact i32_add rfl (by decide) (by omega) (by omega)
  refine va_sld hx hb hX hbl hbA hW.2.2.2.1 (vp_in_iff.mpr ⟨by omega, by omega⟩) dL_law_1053 ?_
  refine lv_topi (fun x_487 ex_487 => ?_)
  have hTo := hT
  refine hx_goi (hx_runV (As := [.int x_485, .int x_487]) (rest := []) ⟨hx, hb, hml, hown, hts⟩ hW gx tt_9 (T := TX9) (N := 20) rfl (t_X9_claim l dC dI dA L1 hl1 H.size ax x_485 x_487 hT gx qc g_qc f_qc pf_qc) (cwV 2 hts (hx_gV kw_933 kw_930 kw_931 kw_932 kw_94) rfl rfl rfl (by decide +kernel) ⟨Nat.le_of_ble_eq_true rfl, Nat.le_of_ble_eq_true rfl⟩) rfl hl.1 rfl (Nat.le_of_ble_eq_true rfl) dL_law_1054 ⟨(show CC + 0 ≤ 600000 from by omega), (show SS + 0 ≤ 7302250 from by omega)⟩) hW (fun r_490 L_488 h_489 H locs p_491 hW => ?_)
  obtain ⟨hr_492, hT, hs⟩ := p_491
  have hT : hx_T T_tb L_488 h_489 := hT
  have hs : hx_S T_tb [] L1 hl1 L_488 h_489 := hs
  have f_qa := (hs.o gx trivial rfl).2.trans f_qa
  have f_qp := (hs.o gx trivial rfl).2.trans f_qp
  have f_qc := (hs.o gx trivial rfl).2.trans f_qc
  have f_qh := (hs.o gx trivial rfl).2.trans f_qh
  have f_qw := (hs.o gx trivial rfl).2.trans f_qw
  have f_ql := (hs.o g_qw trivial rfl).2.trans f_ql
  have f_m_now := (hs.o gm trivial rfl).1.trans f_m_now
  have f_m_persons := (hs.o gm trivial rfl).1.trans f_m_persons
  have f_m_claims := (hs.o gm trivial rfl).1.trans f_m_claims
  have f_m_lines := (hs.o gm trivial rfl).1.trans f_m_lines
  have f_m_acts := (hs.o gm trivial rfl).1.trans f_m_acts
  have f_m_heardMany := (hs.o gm trivial rfl).1.trans f_m_heardMany
  have f_x_now := (hs.o gx trivial rfl).1.trans f_x_now
  have f_x_personCount := (hs.o gx trivial rfl).1.trans f_x_personCount
  have f_x_claimCount := (hs.o gx trivial rfl).1.trans f_x_claimCount
  have f_mw := (hs.o gm trivial rfl).2.trans f_mw
  have f_mr := (hs.o gm trivial rfl).2.trans f_mr
  have f_mp := (hs.o gm trivial rfl).2.trans f_mp
  have f_mn := (hs.o gm trivial rfl).2.trans f_mn
  have f_ml := (hs.o gm trivial rfl).2.trans f_ml
  have f_mh := (hs.o gm trivial rfl).2.trans f_mh
  have f_mt := (hs.o gm trivial rfl).2.trans f_mt
  have f_qo_ln := (hs.o gx trivial rfl).2.trans f_qo_ln
  have f_o_ln := (hs.o g_qo_ln trivial rfl).1.trans f_o_ln
  have f_m_dead := (hs.o gm trivial rfl).2.trans f_m_dead
  have f_m_isj := (hs.o gm trivial rfl).2.trans f_m_isj
  have pf_qa : ∀ j : Nat, (j : Int) < (h_489.2.1 ax 6).toInt → h_489.2.2 qa j ≠ none := by
    intro j hj; rw [(hs.o gx trivial rfl).1] at hj; rw [(hs.a g_qa rfl j).2]; exact pf_qa j hj
  have pf_qp : ∀ j : Nat, (j : Int) < (h_489.2.1 ax 8).toInt → h_489.2.2 qp j ≠ none := by
    intro j hj; rw [(hs.o gx trivial rfl).1] at hj; rw [(hs.a g_qp rfl j).2]; exact pf_qp j hj
  have pf_qc : ∀ j : Nat, (j : Int) < (h_489.2.1 ax 11).toInt → h_489.2.2 qc j ≠ none := by
    intro j hj; rw [(hs.o gx trivial rfl).1] at hj; rw [(hs.a g_qc rfl j).2]; exact pf_qc j hj
  have pf_qh : ∀ j : Nat, (j : Int) < (h_489.2.1 ax 13).toInt → h_489.2.2 qh j ≠ none := by
    intro j hj; rw [(hs.o gx trivial rfl).1] at hj; rw [(hs.a g_qh rfl j).2]; exact pf_qh j hj
  have pf_ql : ∀ j : Nat, (j : Int) < (h_489.2.1 qw 0).toInt → h_489.2.2 ql j ≠ none := by
    intro j hj; rw [(hs.o g_qw trivial rfl).1] at hj; rw [(hs.a g_ql rfl j).2]; exact pf_ql j hj
  have cl_dead : hx_col 40 h_489 qp 7 = c_dead := (hx_col_S hs hTo g_qp tt_44 tt_4 rfl rfl).trans cl_dead
  have cl_isj : hx_col 40 h_489 qp 8 = c_isj := (hx_col_S hs hTo g_qp tt_44 tt_4 rfl rfl).trans cl_isj
  have nu_qp : hx_num 40 h_489 qp 0 (np.toInt) := hx_num_S hs hTo g_qp tt_44 tt_4 rfl rfl nu_qp
  have n_mw : h_489.2.1 mw = F_mw := (funext fun j => (hs.a g_mw rfl j).1).trans n_mw
  have n_mr : h_489.2.1 mr = F_mr := (funext fun j => (hs.a g_mr rfl j).1).trans n_mr
  have n_mp : h_489.2.1 mp = F_mp := (funext fun j => (hs.a g_mp rfl j).1).trans n_mp
  have n_mn : h_489.2.1 mn = F_mn := (funext fun j => (hs.a g_mn rfl j).1).trans n_mn
  have n_ml : h_489.2.1 ml = F_ml := (funext fun j => (hs.a g_ml rfl j).1).trans n_ml
  have n_mh : h_489.2.1 mh = F_mh := (funext fun j => (hs.a g_mh rfl j).1).trans n_mh
  have n_mt : h_489.2.1 mt = F_mt := (funext fun j => (hs.a g_mt rfl j).1).trans n_mt
  have n_dead : h_489.2.1 m_dead = F_dead := (funext fun j => (hs.a g_m_dead rfl j).1).trans n_dead
  have n_isj : h_489.2.1 m_isj = F_isj := (funext fun j => (hs.a g_m_isj rfl j).1).trans n_isj
  have gx := gx.S hs
  have gm := gm.S hs
  have g_qa := g_qa.S hs
  have g_qp := g_qp.S hs
  have g_qc := g_qc.S hs
  have g_qh := g_qh.S hs
  have g_qw := g_qw.S hs
  have g_ql := g_ql.S hs
  have g_mw := g_mw.S hs
  have g_mr := g_mr.S hs
  have g_mp := g_mp.S hs
  have g_mn := g_mn.S hs
  have g_ml := g_ml.S hs
  have g_mh := g_mh.S hs
  have g_mt := g_mt.S hs
  have g_qo_ln := g_qo_ln.S hs
  have g_m_dead := g_m_dead.S hs
  have g_m_isj := g_m_isj.S hs
  refine lv_pop hx hb dL_law_1057 rfl ?_
  refine lv_aload_n hx hb dL_law_1058 rfl (lv_at hl 1 rfl) ?_
  refine lv_aload_n hx hb dL_law_1059 rfl (lv_at hl 3 rfl) ?_
  refine lv_iload_n hx hb dL_law_1060 rfl (lv_at hl 0 rfl) ?_
  refine lv_iconst (v := 1) hx hb dL_law_1061 (by decide) ?_
  refine lv_iadd hx hb dL_law_1062 ?_
  refine lv_topi (fun x_493 ex_493 => ?_)
  have zx_493 : x_493.toInt = i.toInt + 1 := by rw [ex_493]; exact i32_add rfl (by decide) (by omega) (by omega)
  obtain rfl : x_484 = x_493 := ex_484.trans ex_493.symm
  refine va_sld hx hb hX hbl hbA hW.2.2.2.1 (vp_in_iff.mpr ⟨by omega, by omega⟩) dL_law_1063 ?_
  refine lv_topi (fun x_494 ex_494 => ?_)
  obtain rfl : x_485 = x_494 := ex_485.trans ex_494.symm
  refine lv_aload_n hx hb dL_law_1064 rfl (lv_at hl 3 rfl) ?_
  refine lv_iload_n hx hb dL_law_1065 rfl (lv_at hl 0 rfl) ?_
  refine lv_iconst (v := 2) hx hb dL_law_1066 (by decide) ?_
  refine lv_iadd hx hb dL_law_1067 ?_
  refine lv_topi (fun x_495 ex_495 => ?_)
  have zx_495 : x_495.toInt = i.toInt + 2 := by rw [ex_495]; exact i32_add rfl (by decide) (by omega) (by omega)
  obtain rfl : x_486 = x_495 := ex_486.trans ex_495.symm
  refine va_sld hx hb hX hbl hbA hW.2.2.2.1 (vp_in_iff.mpr ⟨by omega, by omega⟩) dL_law_1068 ?_
  refine lv_topi (fun x_496 ex_496 => ?_)
  obtain rfl : x_487 = x_496 := ex_487.trans ex_496.symm
  have hTo := hT
  refine hx_goi (hx_runV (As := [.int x_485, .int x_487]) (rest := []) ⟨hx, hb, hml, hown, hts⟩ hW gm tt_10 (T := TX10) (N := 98) rfl (t_X10_claim l dC dI dA L_488 h_489 H.size am x_485 x_487 hT gm) (cwV 2 hts (hx_gV kw_1669 kw_1666 kw_1667 kw_1668 kw_103) rfl rfl rfl (by decide +kernel) ⟨Nat.le_of_ble_eq_true rfl, Nat.le_of_ble_eq_true rfl⟩) rfl hl.1 rfl (Nat.le_of_ble_eq_true rfl) dL_law_1069 ⟨(show CC + 0 + 0 ≤ 600000 from by omega), (show SS + 0 + 0 ≤ 7302250 from by omega)⟩) hW (fun r_499 L_497 h_498 H locs p_500 hW => ?_)
  obtain ⟨hr_501, hT, hs⟩ := p_500
  have hT : hx_T T_tb L_497 h_498 := hT
  have hs : hx_S T_tb [] L_488 h_489 L_497 h_498 := hs
  have f_qa := (hs.o gx trivial rfl).2.trans f_qa
  have f_qp := (hs.o gx trivial rfl).2.trans f_qp
  have f_qc := (hs.o gx trivial rfl).2.trans f_qc
  have f_qh := (hs.o gx trivial rfl).2.trans f_qh
  have f_qw := (hs.o gx trivial rfl).2.trans f_qw
  have f_ql := (hs.o g_qw trivial rfl).2.trans f_ql
  have f_m_now := (hs.o gm trivial rfl).1.trans f_m_now
  have f_m_persons := (hs.o gm trivial rfl).1.trans f_m_persons
  have f_m_claims := (hs.o gm trivial rfl).1.trans f_m_claims
  have f_m_lines := (hs.o gm trivial rfl).1.trans f_m_lines
  have f_m_acts := (hs.o gm trivial rfl).1.trans f_m_acts
  have f_m_heardMany := (hs.o gm trivial rfl).1.trans f_m_heardMany
  have f_x_now := (hs.o gx trivial rfl).1.trans f_x_now
  have f_x_personCount := (hs.o gx trivial rfl).1.trans f_x_personCount
  have f_x_claimCount := (hs.o gx trivial rfl).1.trans f_x_claimCount
  have f_mw := (hs.o gm trivial rfl).2.trans f_mw
  have f_mr := (hs.o gm trivial rfl).2.trans f_mr
  have f_mp := (hs.o gm trivial rfl).2.trans f_mp
  have f_mn := (hs.o gm trivial rfl).2.trans f_mn
  have f_ml := (hs.o gm trivial rfl).2.trans f_ml
  have f_mh := (hs.o gm trivial rfl).2.trans f_mh
  have f_mt := (hs.o gm trivial rfl).2.trans f_mt
  have f_qo_ln := (hs.o gx trivial rfl).2.trans f_qo_ln
  have f_o_ln := (hs.o g_qo_ln trivial rfl).1.trans f_o_ln
  have f_m_dead := (hs.o gm trivial rfl).2.trans f_m_dead
  have f_m_isj := (hs.o gm trivial rfl).2.trans f_m_isj
  have pf_qa : ∀ j : Nat, (j : Int) < (h_498.2.1 ax 6).toInt → h_498.2.2 qa j ≠ none := by
    intro j hj; rw [(hs.o gx trivial rfl).1] at hj; rw [(hs.a g_qa rfl j).2]; exact pf_qa j hj
  have pf_qp : ∀ j : Nat, (j : Int) < (h_498.2.1 ax 8).toInt → h_498.2.2 qp j ≠ none := by
    intro j hj; rw [(hs.o gx trivial rfl).1] at hj; rw [(hs.a g_qp rfl j).2]; exact pf_qp j hj
  have pf_qc : ∀ j : Nat, (j : Int) < (h_498.2.1 ax 11).toInt → h_498.2.2 qc j ≠ none := by
    intro j hj; rw [(hs.o gx trivial rfl).1] at hj; rw [(hs.a g_qc rfl j).2]; exact pf_qc j hj
  have pf_qh : ∀ j : Nat, (j : Int) < (h_498.2.1 ax 13).toInt → h_498.2.2 qh j ≠ none := by
    intro j hj; rw [(hs.o gx trivial rfl).1] at hj; rw [(hs.a g_qh rfl j).2]; exact pf_qh j hj
  have pf_ql : ∀ j : Nat, (j : Int) < (h_498.2.1 qw 0).toInt → h_498.2.2 ql j ≠ none := by
    intro j hj; rw [(hs.o g_qw trivial rfl).1] at hj; rw [(hs.a g_ql rfl j).2]; exact pf_ql j hj
  have cl_dead : hx_col 40 h_498 qp 7 = c_dead := (hx_col_S hs hTo g_qp tt_44 tt_4 rfl rfl).trans cl_dead
  have cl_isj : hx_col 40 h_498 qp 8 = c_isj := (hx_col_S hs hTo g_qp tt_44 tt_4 rfl rfl).trans cl_isj
  have nu_qp : hx_num 40 h_498 qp 0 (np.toInt) := hx_num_S hs hTo g_qp tt_44 tt_4 rfl rfl nu_qp
  have n_mw : h_498.2.1 mw = F_mw := (funext fun j => (hs.a g_mw rfl j).1).trans n_mw
  have n_mr : h_498.2.1 mr = F_mr := (funext fun j => (hs.a g_mr rfl j).1).trans n_mr
  have n_mp : h_498.2.1 mp = F_mp := (funext fun j => (hs.a g_mp rfl j).1).trans n_mp
  have n_mn : h_498.2.1 mn = F_mn := (funext fun j => (hs.a g_mn rfl j).1).trans n_mn
  have n_ml : h_498.2.1 ml = F_ml := (funext fun j => (hs.a g_ml rfl j).1).trans n_ml
  have n_mh : h_498.2.1 mh = F_mh := (funext fun j => (hs.a g_mh rfl j).1).trans n_mh
  have n_mt : h_498.2.1 mt = F_mt := (funext fun j => (hs.a g_mt rfl j).1).trans n_mt
  have n_dead : h_498.2.1 m_dead = F_dead := (funext fun j => (hs.a g_m_dead rfl j).1).trans n_dead
  have n_isj : h_498.2.1 m_isj = F_isj := (funext fun j => (hs.a g_m_isj rfl j).1).trans n_isj
  have gx := gx.S hs
  have gm := gm.S hs
  have g_qa := g_qa.S hs
  have g_qp := g_qp.S hs
  have g_qc := g_qc.S hs
  have g_qh := g_qh.S hs
  have g_qw := g_qw.S hs
  have g_ql := g_ql.S hs
  have g_mw := g_mw.S hs
  have g_mr := g_mr.S hs
  have g_mp := g_mp.S hs
  have g_mn := g_mn.S hs
  have g_ml := g_ml.S hs
  have g_mh := g_mh.S hs
  have g_mt := g_mt.S hs
  have g_qo_ln := g_qo_ln.S hs
  have g_m_dead := g_m_dead.S hs
  have g_m_isj := g_m_isj.S hs
  refine lv_pop hx hb dL_law_1072 rfl ?_
  refine lv_goto (tgt := 1379) hx hb dL_law_1073 (by decide) ?_
  refine W.widen (k := CC + 3) (n := SS + 179) (by omega) (by omega) ?_
  exact kk L_497 h_498 H locs ls hW ⟨hT, gx, gm, ⟨f_x_now.trans f_m_now.symm, f_x_personCount.trans f_m_persons.symm, f_x_claimCount.trans f_m_claims.symm, hx_ob f_qo_ln (f_o_ln.trans f_m_lines.symm), hx_ob f_qp (by rw [f_x_personCount]; exact nu_qp), hx_ob2 f_qp f_m_dead (by rw [cl_dead, n_dead]; exact eq_dead), hx_ob2 f_qp f_m_isj (by rw [cl_isj, n_isj]; exact eq_isj), trivial⟩, ⟨hx_ob f_qa pf_qa, hx_ob f_qp pf_qp, hx_ob f_qc pf_qc, hx_ob f_qh pf_qh, (fun w q hw hq => by obtain rfl : qw = w := Option.some.inj (f_qw.symm.trans hw); obtain rfl : ql = q := Option.some.inj (f_ql.symm.trans hq); exact pf_ql)⟩, ⟨hx_ob f_mw (by rw [n_mw]; exact hwd), hx_ob f_mr (by rw [n_mr, f_m_acts]; exact hWK), hx_ob2 f_mp f_mn (by rw [n_mp, n_mn, f_m_acts]; exact hRP), hx_ob f_ml (by rw [n_ml, f_m_claims, f_m_acts]; exact hPL), hx_ob f_mh (by rw [n_mh, f_m_heardMany, f_m_claims]; exact hHC), hx_ob f_mt (by rw [n_mt]; exact (hx_TR_le hTR (by omega)))⟩⟩ hl

set_option maxHeartbeats 4000000 in
set_option maxRecDepth 100000 in
theorem law_case_20 {p : Program} {e : Env} {s : State} {m : MethodId} {below : List Frame} {meth : Method} {c : Code} (l : Launch) {b LN : Nat} {xs : Nat → Int32} (hx : p.tables.exec = Jvm.exec) (hb : c.code = code) (hr : meth.sig.returnType = ret) (hlocks : meth.locks = false) (hml : c.maxLocals = 4) (hown : s.vm.findClass "SmallCourtLaw" = some m.cls) (hts : ∀ w ∈ hx_all, w.before #[Value.ref b] s = true) (hX : va_X b LN xs s s.heap) (hbl : b < s.heap.size) (hbA : ¬ s.heap.size ≤ b) (hLN : LN ≤ 3584) (dC : Nat → ClassId) (dI : Nat → Nat → Nat) (dA : Nat → ClassId) (b0 : hx_z) (ax am : Nat) (T1 : Int) (hT0 : 0 ≤ T1) (hT1 : T1 ≤ 511) (i : Int32) (hi0 : 0 ≤ i.toInt) (hiL : i.toInt + 7 ≤ LN) (CC SS : Nat) (hCC : CC + 3 ≤ 600000) (hSS : SS + 179 ≤ 7302250) (L1 : List Nat) (hl1 : hx_h) (H : Heap) (locs : List Loc) (ls : Array Slot) (hW : hx_W T_tb (P_ty dA) (dC, dI) vwCl (fun q : Nat => s.heap.size ≤ q) s.heap L1 hl1 s H locs) (hZ : hx_Xt (fun q : Nat => s.heap.size ≤ q) b0 s) (hI : hx_IV T1 ax am L1 hl1) (hl : lv_has ls 4 [(3, .int i), (2, .ref am), (1, .ref ax), (0, .ref b)]) (kk : ∀ (L2 : List Nat) (h2 : hx_h) (H2 : Heap) (locs2 : List Loc) (ls2 : Array Slot), hx_W T_tb (P_ty dA) (dC, dI) vwCl (fun q : Nat => s.heap.size ≤ q) s.heap L2 h2 s H2 locs2 → hx_IV (T1 + 1) ax am L2 h2 → lv_has ls2 4 [(3, .int i), (2, .ref am), (1, .ref ax), (0, .ref b)] → W p l e room_1 s m #[Value.ref b] below meth c H2 locs2 (CC + 3) (SS + 179) (lw_Z below #[Value.ref b] s) (F0 m 1379 ls2 [])) : W p l e room_1 s m #[Value.ref b] below meth c H locs CC SS (lw_Z below #[Value.ref b] s) (F0 m 1076 ls []) := by
  obtain ⟨hT, gx, gm, ⟨he_nw, he_np, he_c0, ho_ln, hn_qp, hc_dead, hc_isj, -⟩, ⟨ia, ip, ic, ih, il⟩, ⟨jw, jr, jp, jl, jh, jt⟩⟩ := hI
  obtain ⟨qa, f_qa, g_qa⟩ := hx_rf hT gx tt_9 (k := 5) (u := 43) rfl
  have pf_qa := ia qa f_qa
  obtain ⟨qp, f_qp, g_qp⟩ := hx_rf hT gx tt_9 (k := 7) (u := 44) rfl
  have pf_qp := ip qp f_qp
  obtain ⟨qc, f_qc, g_qc⟩ := hx_rf hT gx tt_9 (k := 10) (u := 45) rfl
  have pf_qc := ic qc f_qc
  obtain ⟨qh, f_qh, g_qh⟩ := hx_rf hT gx tt_9 (k := 12) (u := 46) rfl
  have pf_qh := ih qh f_qh
  obtain ⟨qw, f_qw, g_qw⟩ := hx_rf hT gx tt_9 (k := 19) (u := 8) rfl
  obtain ⟨ql, f_ql, g_ql⟩ := hx_rf hT g_qw tt_8 (k := 3) (u := 40) rfl
  have pf_ql := il qw ql f_qw f_ql
  obtain ⟨nw, f_m_now⟩ : ∃ y : Int32, hl1.2.1 am 0 = y := ⟨_, rfl⟩
  have b_nw := hT.gi gm tt_10 (k := 0) rfl
  rw [f_m_now] at b_nw
  have b_nw : 0 ≤ nw.toInt ∧ nw.toInt ≤ 7999 := b_nw
  obtain ⟨np, f_m_persons⟩ : ∃ y : Int32, hl1.2.1 am 20 = y := ⟨_, rfl⟩
  have b_np := hT.gi gm tt_10 (k := 20) rfl
  rw [f_m_persons] at b_np
  have b_np : 0 ≤ np.toInt ∧ np.toInt ≤ 40 := b_np
  obtain ⟨c0, f_m_claims⟩ : ∃ y : Int32, hl1.2.1 am 36 = y := ⟨_, rfl⟩
  have b_c0 := hT.gi gm tt_10 (k := 36) rfl
  rw [f_m_claims] at b_c0
  have b_c0 : 0 ≤ c0.toInt ∧ c0.toInt ≤ 100 := b_c0
  obtain ⟨ln, f_m_lines⟩ : ∃ y : Int32, hl1.2.1 am 29 = y := ⟨_, rfl⟩
  have b_ln := hT.gi gm tt_10 (k := 29) rfl
  rw [f_m_lines] at b_ln
  have b_ln : 0 ≤ ln.toInt ∧ ln.toInt ≤ 400 := b_ln
  obtain ⟨a0, f_m_acts⟩ : ∃ y : Int32, hl1.2.1 am 1 = y := ⟨_, rfl⟩
  have b_a0 := hT.gi gm tt_10 (k := 1) rfl
  rw [f_m_acts] at b_a0
  have b_a0 : 0 ≤ a0.toInt ∧ a0.toInt ≤ 8 := b_a0
  obtain ⟨m0, f_m_heardMany⟩ : ∃ y : Int32, hl1.2.1 am 57 = y := ⟨_, rfl⟩
  have b_m0 := hT.gi gm tt_10 (k := 57) rfl
  rw [f_m_heardMany] at b_m0
  have b_m0 : 0 ≤ m0.toInt ∧ m0.toInt ≤ 100 := b_m0
  have f_x_now : hl1.2.1 ax 2 = nw := he_nw.trans f_m_now
  have f_x_personCount : hl1.2.1 ax 8 = np := he_np.trans f_m_persons
  have f_x_claimCount : hl1.2.1 ax 11 = c0 := he_c0.trans f_m_claims
  obtain ⟨mw, f_mw, g_mw⟩ := hx_rf hT gm tt_10 (k := 19) (u := 57) rfl
  obtain ⟨F_mw, n_mw⟩ : ∃ g : Nat → Int32, hl1.2.1 mw = g := ⟨_, rfl⟩
  obtain ⟨mr, f_mr, g_mr⟩ := hx_rf hT gm tt_10 (k := 3) (u := 50) rfl
  obtain ⟨F_mr, n_mr⟩ : ∃ g : Nat → Int32, hl1.2.1 mr = g := ⟨_, rfl⟩
  obtain ⟨mp, f_mp, g_mp⟩ := hx_rf hT gm tt_10 (k := 5) (u := 52) rfl
  obtain ⟨F_mp, n_mp⟩ : ∃ g : Nat → Int32, hl1.2.1 mp = g := ⟨_, rfl⟩
  obtain ⟨mn, f_mn, g_mn⟩ := hx_rf hT gm tt_10 (k := 4) (u := 51) rfl
  obtain ⟨F_mn, n_mn⟩ : ∃ g : Nat → Int32, hl1.2.1 mn = g := ⟨_, rfl⟩
  obtain ⟨ml, f_ml, g_ml⟩ := hx_rf hT gm tt_10 (k := 44) (u := 79) rfl
  obtain ⟨F_ml, n_ml⟩ : ∃ g : Nat → Int32, hl1.2.1 ml = g := ⟨_, rfl⟩
  obtain ⟨mh, f_mh, g_mh⟩ := hx_rf hT gm tt_10 (k := 47) (u := 82) rfl
  obtain ⟨F_mh, n_mh⟩ : ∃ g : Nat → Int32, hl1.2.1 mh = g := ⟨_, rfl⟩
  obtain ⟨mt, f_mt, g_mt⟩ := hx_rf hT gm tt_10 (k := 45) (u := 80) rfl
  obtain ⟨F_mt, n_mt⟩ : ∃ g : Nat → Int32, hl1.2.1 mt = g := ⟨_, rfl⟩
  obtain ⟨qo_ln, f_qo_ln, g_qo_ln⟩ := hx_rf hT gx tt_9 (k := 9) (u := 1) rfl
  have f_o_ln : hl1.2.1 qo_ln 0 = ln := (ho_ln qo_ln f_qo_ln).trans f_m_lines
  have nu_qp := hn_qp qp f_qp; rw [f_x_personCount] at nu_qp
  obtain ⟨c_dead, cl_dead⟩ : ∃ g : Nat → Int32, hx_col 40 hl1 qp 7 = g := ⟨_, rfl⟩
  obtain ⟨m_dead, f_m_dead, g_m_dead⟩ := hx_rf hT gm tt_10 (k := 27) (u := 64) rfl
  obtain ⟨F_dead, n_dead⟩ : ∃ g : Nat → Int32, hl1.2.1 m_dead = g := ⟨_, rfl⟩
  have eq_dead := hc_dead qp m_dead f_qp f_m_dead; rw [cl_dead, n_dead] at eq_dead
  have z_dead : np.toInt.toNat < 40 → c_dead np.toInt.toNat = 0 := fun hj => hx_num_z nu_qp cl_dead hj (by omega)
  obtain ⟨c_isj, cl_isj⟩ : ∃ g : Nat → Int32, hx_col 40 hl1 qp 8 = g := ⟨_, rfl⟩
  obtain ⟨m_isj, f_m_isj, g_m_isj⟩ := hx_rf hT gm tt_10 (k := 28) (u := 65) rfl
  obtain ⟨F_isj, n_isj⟩ : ∃ g : Nat → Int32, hl1.2.1 m_isj = g := ⟨_, rfl⟩
  have eq_isj := hc_isj qp m_isj f_qp f_m_isj; rw [cl_isj, n_isj] at eq_isj
  have z_isj : np.toInt.toNat < 40 → c_isj np.toInt.toNat = 0 := fun hj => hx_num_z nu_qp cl_isj hj (by omega)
  have hwd := jw mw f_mw; rw [n_mw] at hwd
  have hWK := jr mr f_mr; rw [n_mr, f_m_acts] at hWK
  have hRP := jp mp mn f_mp f_mn; rw [n_mp, n_mn, f_m_acts] at hRP
  have hPL := jl ml f_ml; rw [n_ml, f_m_claims, f_m_acts] at hPL
  have hHC := jh mh f_mh; rw [n_mh, f_m_heardMany, f_m_claims] at hHC
  have hTR := jt mt f_mt; rw [n_mt] at hTR
  refine lv_aload_n hx hb dL_law_1076 rfl (lv_at hl 2 rfl) ?_
  refine lv_aload_n hx hb dL_law_1077 rfl (lv_at hl 3 rfl) ?_
  refine lv_iload_n hx hb dL_law_1078 rfl (lv_at hl 0 rfl) ?_
  refine lv_iconst (v := 1) hx hb dL_law_1079 (by decide) ?_
  refine lv_iadd hx hb dL_law_1080 ?_
  have rg_502 := i32_r i
  refine lv_topi (fun x_503 ex_503 => ?_)
  have zx_503 : x_503.toInt = i.toInt + 1 := by rw [ex_503]; exact i32_add rfl (by decide) (by omega) (by omega)
  refine va_sld hx hb hX hbl hbA hW.2.2.2.1 (vp_in_iff.mpr ⟨by omega, by omega⟩) dL_law_1081 ?_
  refine lv_topi (fun x_504 ex_504 => ?_)
  refine lv_aload_n hx hb dL_law_1082 rfl (lv_at hl 3 rfl) ?_
  refine lv_iload_n hx hb dL_law_1083 rfl (lv_at hl 0 rfl) ?_
  refine lv_iconst (v := 2) hx hb dL_law_1084 (by decide) ?_
  refine lv_iadd hx hb dL_law_1085 ?_
  refine lv_topi (fun x_505 ex_505 => ?_)
  have zx_505 : x_505.toInt = i.toInt + 2 := by rw [ex_505]; exact i32_add rfl (by decide) (by omega) (by omega)
  refine va_sld hx hb hX hbl hbA hW.2.2.2.1 (vp_in_iff.mpr ⟨by omega, by omega⟩) dL_law_1086 ?_
  refine lv_topi (fun x_506 ex_506 => ?_)
  refine lv_aload_n hx hb dL_law_1087 rfl (lv_at hl 3 rfl) ?_
  refine lv_iload_n hx hb dL_law_1088 rfl (lv_at hl 0 rfl) ?_
  refine lv_iconst (v := 3) hx hb dL_law_1089 (by decide) ?_
  refine lv_iadd hx hb dL_law_1090 ?_
  refine lv_topi (fun x_507 ex_507 => ?_)
  have zx_507 : x_507.toInt = i.toInt + 3 := by rw [ex_507]; exact i32_add rfl (by decide) (by omega) (by omega)
  refine va_sld hx hb hX hbl hbA hW.2.2.2.1 (vp_in_iff.mpr ⟨by omega, by omega⟩) dL_law_1091 ?_
  refine lv_topi (fun x_508 ex_508 => ?_)
  refine lv_aload_n hx hb dL_law_1092 rfl (lv_at hl 3 rfl) ?_
  refine lv_iload_n hx hb dL_law_1093 rfl (lv_at hl 0 rfl) ?_
  refine lv_iconst (v := 4) hx hb dL_law_1094 (by decide) ?_
  refine lv_iadd hx hb dL_law_1095 ?_
  refine lv_topi (fun x_509 ex_509 => ?_)
  have zx_509 : x_509.toInt = i.toInt + 4 := by rw [ex_509]; exact i32_add rfl (by decide) (by omega) (by omega)
  refine va_sld hx hb hX hbl hbA hW.2.2.2.1 (vp_in_iff.mpr ⟨by omega, by omega⟩) dL_law_1096 ?_
  refine lv_topi (fun x_510 ex_510 => ?_)
  have hTo := hT
  refine hx_goi (hx_runVX (As := [.int x_504, .int x_506, .int x_508, .int x_510]) (rest := []) ⟨hx, hb, hml, hown, hts⟩ hW gx tt_9 (T := TX9) (N := 20) rfl (t_X9_state l dC dI dA L1 hl1 H.size b0 ax x_504 x_506 x_508 x_510 hT gx qc g_qc f_qc pf_qc) hZ (cwV 4 hts (hx_gV kw_937 kw_934 kw_935 kw_936 kw_94) rfl rfl rfl (by decide +kernel) ⟨Nat.le_of_ble_eq_true rfl, Nat.le_of_ble_eq_true rfl⟩) rfl hl.1 rfl (Nat.le_of_ble_eq_true rfl) dL_law_1097 ⟨(show CC + 0 ≤ 600000 from by omega), (show SS + 0 ≤ 7302250 from by omega)⟩) hW (fun r_513 L_511 h_512 H locs p_514 hW => ?_)
  obtain ⟨hr_515, hT, hs⟩ := p_514
  have hT : hx_T T_tb L_511 h_512 := hT
  have hs : hx_S T_tb [] L1 hl1 L_511 h_512 := hs
  have f_qa := (hs.o gx trivial rfl).2.trans f_qa
  have f_qp := (hs.o gx trivial rfl).2.trans f_qp
  have f_qc := (hs.o gx trivial rfl).2.trans f_qc
  have f_qh := (hs.o gx trivial rfl).2.trans f_qh
  have f_qw := (hs.o gx trivial rfl).2.trans f_qw
  have f_ql := (hs.o g_qw trivial rfl).2.trans f_ql
  have f_m_now := (hs.o gm trivial rfl).1.trans f_m_now
  have f_m_persons := (hs.o gm trivial rfl).1.trans f_m_persons
  have f_m_claims := (hs.o gm trivial rfl).1.trans f_m_claims
  have f_m_lines := (hs.o gm trivial rfl).1.trans f_m_lines
  have f_m_acts := (hs.o gm trivial rfl).1.trans f_m_acts
  have f_m_heardMany := (hs.o gm trivial rfl).1.trans f_m_heardMany
  have f_x_now := (hs.o gx trivial rfl).1.trans f_x_now
  have f_x_personCount := (hs.o gx trivial rfl).1.trans f_x_personCount
  have f_x_claimCount := (hs.o gx trivial rfl).1.trans f_x_claimCount
  have f_mw := (hs.o gm trivial rfl).2.trans f_mw
  have f_mr := (hs.o gm trivial rfl).2.trans f_mr
  have f_mp := (hs.o gm trivial rfl).2.trans f_mp
  have f_mn := (hs.o gm trivial rfl).2.trans f_mn
  have f_ml := (hs.o gm trivial rfl).2.trans f_ml
  have f_mh := (hs.o gm trivial rfl).2.trans f_mh
  have f_mt := (hs.o gm trivial rfl).2.trans f_mt
  have f_qo_ln := (hs.o gx trivial rfl).2.trans f_qo_ln
  have f_o_ln := (hs.o g_qo_ln trivial rfl).1.trans f_o_ln
  have f_m_dead := (hs.o gm trivial rfl).2.trans f_m_dead
  have f_m_isj := (hs.o gm trivial rfl).2.trans f_m_isj
  have pf_qa : ∀ j : Nat, (j : Int) < (h_512.2.1 ax 6).toInt → h_512.2.2 qa j ≠ none := by
    intro j hj; rw [(hs.o gx trivial rfl).1] at hj; rw [(hs.a g_qa rfl j).2]; exact pf_qa j hj
  have pf_qp : ∀ j : Nat, (j : Int) < (h_512.2.1 ax 8).toInt → h_512.2.2 qp j ≠ none := by
    intro j hj; rw [(hs.o gx trivial rfl).1] at hj; rw [(hs.a g_qp rfl j).2]; exact pf_qp j hj
  have pf_qc : ∀ j : Nat, (j : Int) < (h_512.2.1 ax 11).toInt → h_512.2.2 qc j ≠ none := by
    intro j hj; rw [(hs.o gx trivial rfl).1] at hj; rw [(hs.a g_qc rfl j).2]; exact pf_qc j hj
  have pf_qh : ∀ j : Nat, (j : Int) < (h_512.2.1 ax 13).toInt → h_512.2.2 qh j ≠ none := by
    intro j hj; rw [(hs.o gx trivial rfl).1] at hj; rw [(hs.a g_qh rfl j).2]; exact pf_qh j hj
  have pf_ql : ∀ j : Nat, (j : Int) < (h_512.2.1 qw 0).toInt → h_512.2.2 ql j ≠ none := by
    intro j hj; rw [(hs.o g_qw trivial rfl).1] at hj; rw [(hs.a g_ql rfl j).2]; exact pf_ql j hj
  have cl_dead : hx_col 40 h_512 qp 7 = c_dead := (hx_col_S hs hTo g_qp tt_44 tt_4 rfl rfl).trans cl_dead
  have cl_isj : hx_col 40 h_512 qp 8 = c_isj := (hx_col_S hs hTo g_qp tt_44 tt_4 rfl rfl).trans cl_isj
  have nu_qp : hx_num 40 h_512 qp 0 (np.toInt) := hx_num_S hs hTo g_qp tt_44 tt_4 rfl rfl nu_qp
  have n_mw : h_512.2.1 mw = F_mw := (funext fun j => (hs.a g_mw rfl j).1).trans n_mw
  have n_mr : h_512.2.1 mr = F_mr := (funext fun j => (hs.a g_mr rfl j).1).trans n_mr
  have n_mp : h_512.2.1 mp = F_mp := (funext fun j => (hs.a g_mp rfl j).1).trans n_mp
  have n_mn : h_512.2.1 mn = F_mn := (funext fun j => (hs.a g_mn rfl j).1).trans n_mn
  have n_ml : h_512.2.1 ml = F_ml := (funext fun j => (hs.a g_ml rfl j).1).trans n_ml
  have n_mh : h_512.2.1 mh = F_mh := (funext fun j => (hs.a g_mh rfl j).1).trans n_mh
  have n_mt : h_512.2.1 mt = F_mt := (funext fun j => (hs.a g_mt rfl j).1).trans n_mt
  have n_dead : h_512.2.1 m_dead = F_dead := (funext fun j => (hs.a g_m_dead rfl j).1).trans n_dead
  have n_isj : h_512.2.1 m_isj = F_isj := (funext fun j => (hs.a g_m_isj rfl j).1).trans n_isj
  have gx := gx.S hs
  have gm := gm.S hs
  have g_qa := g_qa.S hs
  have g_qp := g_qp.S hs
  have g_qc := g_qc.S hs
  have g_qh := g_qh.S hs
  have g_qw := g_qw.S hs
  have g_ql := g_ql.S hs
  have g_mw := g_mw.S hs
  have g_mr := g_mr.S hs
  have g_mp := g_mp.S hs
  have g_mn := g_mn.S hs
  have g_ml := g_ml.S hs
  have g_mh := g_mh.S hs
  have g_mt := g_mt.S hs
  have g_qo_ln := g_qo_ln.S hs
  have g_m_dead := g_m_dead.S hs
  have g_m_isj := g_m_isj.S hs
  refine lv_pop hx hb dL_law_1100 rfl ?_
  refine lv_aload_n hx hb dL_law_1101 rfl (lv_at hl 1 rfl) ?_
  refine lv_aload_n hx hb dL_law_1102 rfl (lv_at hl 3 rfl) ?_
  refine lv_iload_n hx hb dL_law_1103 rfl (lv_at hl 0 rfl) ?_
  refine lv_iconst (v := 1) hx hb dL_law_1104 (by decide) ?_
  refine lv_iadd hx hb dL_law_1105 ?_
  refine lv_topi (fun x_516 ex_516 => ?_)
  have zx_516 : x_516.toInt = i.toInt + 1 := by rw [ex_516]; exact i32_add rfl (by decide) (by omega) (by omega)
  obtain rfl : x_503 = x_516 := ex_503.trans ex_516.symm
  refine va_sld hx hb hX hbl hbA hW.2.2.2.1 (vp_in_iff.mpr ⟨by omega, by omega⟩) dL_law_1106 ?_
  refine lv_topi (fun x_517 ex_517 => ?_)
  obtain rfl : x_504 = x_517 := ex_504.trans ex_517.symm
  refine lv_aload_n hx hb dL_law_1107 rfl (lv_at hl 3 rfl) ?_
  refine lv_iload_n hx hb dL_law_1108 rfl (lv_at hl 0 rfl) ?_
  refine lv_iconst (v := 2) hx hb dL_law_1109 (by decide) ?_
  refine lv_iadd hx hb dL_law_1110 ?_
  refine lv_topi (fun x_518 ex_518 => ?_)
  have zx_518 : x_518.toInt = i.toInt + 2 := by rw [ex_518]; exact i32_add rfl (by decide) (by omega) (by omega)
  obtain rfl : x_505 = x_518 := ex_505.trans ex_518.symm
  refine va_sld hx hb hX hbl hbA hW.2.2.2.1 (vp_in_iff.mpr ⟨by omega, by omega⟩) dL_law_1111 ?_
  refine lv_topi (fun x_519 ex_519 => ?_)
  obtain rfl : x_506 = x_519 := ex_506.trans ex_519.symm
  refine lv_aload_n hx hb dL_law_1112 rfl (lv_at hl 3 rfl) ?_
  refine lv_iload_n hx hb dL_law_1113 rfl (lv_at hl 0 rfl) ?_
  refine lv_iconst (v := 3) hx hb dL_law_1114 (by decide) ?_
  refine lv_iadd hx hb dL_law_1115 ?_
  refine lv_topi (fun x_520 ex_520 => ?_)
  have zx_520 : x_520.toInt = i.toInt + 3 := by rw [ex_520]; exact i32_add rfl (by decide) (by omega) (by omega)
  obtain rfl : x_507 = x_520 := ex_507.trans ex_520.symm
  refine va_sld hx hb hX hbl hbA hW.2.2.2.1 (vp_in_iff.mpr ⟨by omega, by omega⟩) dL_law_1116 ?_
  refine lv_topi (fun x_521 ex_521 => ?_)
  obtain rfl : x_508 = x_521 := ex_508.trans ex_521.symm
  refine lv_aload_n hx hb dL_law_1117 rfl (lv_at hl 3 rfl) ?_
  refine lv_iload_n hx hb dL_law_1118 rfl (lv_at hl 0 rfl) ?_
  refine lv_iconst (v := 4) hx hb dL_law_1119 (by decide) ?_
  refine lv_iadd hx hb dL_law_1120 ?_
  refine lv_topi (fun x_522 ex_522 => ?_)
  have zx_522 : x_522.toInt = i.toInt + 4 := by rw [ex_522]; exact i32_add rfl (by decide) (by omega) (by omega)
  obtain rfl : x_509 = x_522 := ex_509.trans ex_522.symm
  refine va_sld hx hb hX hbl hbA hW.2.2.2.1 (vp_in_iff.mpr ⟨by omega, by omega⟩) dL_law_1121 ?_
  refine lv_topi (fun x_523 ex_523 => ?_)
  obtain rfl : x_510 = x_523 := ex_510.trans ex_523.symm
  have hTo := hT
  refine hx_goi (hx_runV (As := [.int x_504, .int x_506, .int x_508, .int x_510]) (rest := []) ⟨hx, hb, hml, hown, hts⟩ hW gm tt_10 (T := TX10) (N := 98) rfl (t_X10_state l dC dI dA L_511 h_512 H.size am x_504 x_506 x_508 x_510 hT gm) (cwV 4 hts (hx_gV kw_1673 kw_1670 kw_1671 kw_1672 kw_103) rfl rfl rfl (by decide +kernel) ⟨Nat.le_of_ble_eq_true rfl, Nat.le_of_ble_eq_true rfl⟩) rfl hl.1 rfl (Nat.le_of_ble_eq_true rfl) dL_law_1122 ⟨(show CC + 0 + 0 ≤ 600000 from by omega), (show SS + 0 + 0 ≤ 7302250 from by omega)⟩) hW (fun r_526 L_524 h_525 H locs p_527 hW => ?_)
  obtain ⟨hr_528, hT, hs⟩ := p_527
  have hT : hx_T T_tb L_524 h_525 := hT
  have hs : hx_S T_tb [(10, 67), (10, 68), (10, 69), (10, 70), (10, 71)] L_511 h_512 L_524 h_525 := hs
  have f_qa := (hs.o gx trivial rfl).2.trans f_qa
  have f_qp := (hs.o gx trivial rfl).2.trans f_qp
  have f_qc := (hs.o gx trivial rfl).2.trans f_qc
  have f_qh := (hs.o gx trivial rfl).2.trans f_qh
  have f_qw := (hs.o gx trivial rfl).2.trans f_qw
  have f_ql := (hs.o g_qw trivial rfl).2.trans f_ql
  have f_m_now := (hs.o gm trivial rfl).1.trans f_m_now
  have f_m_persons := (hs.o gm trivial rfl).1.trans f_m_persons
  have f_m_claims := (hs.o gm trivial rfl).1.trans f_m_claims
  have f_m_lines := (hs.o gm trivial rfl).1.trans f_m_lines
  have f_m_acts := (hs.o gm trivial rfl).1.trans f_m_acts
  have f_m_heardMany := (hs.o gm trivial rfl).1.trans f_m_heardMany
  have f_x_now := (hs.o gx trivial rfl).1.trans f_x_now
  have f_x_personCount := (hs.o gx trivial rfl).1.trans f_x_personCount
  have f_x_claimCount := (hs.o gx trivial rfl).1.trans f_x_claimCount
  have f_mw := (hs.o gm trivial rfl).2.trans f_mw
  have f_mr := (hs.o gm trivial rfl).2.trans f_mr
  have f_mp := (hs.o gm trivial rfl).2.trans f_mp
  have f_mn := (hs.o gm trivial rfl).2.trans f_mn
  have f_ml := (hs.o gm trivial rfl).2.trans f_ml
  have f_mh := (hs.o gm trivial rfl).2.trans f_mh
  have f_mt := (hs.o gm trivial rfl).2.trans f_mt
  have f_qo_ln := (hs.o gx trivial rfl).2.trans f_qo_ln
  have f_o_ln := (hs.o g_qo_ln trivial rfl).1.trans f_o_ln
  have f_m_dead := (hs.o gm trivial rfl).2.trans f_m_dead
  have f_m_isj := (hs.o gm trivial rfl).2.trans f_m_isj
  have pf_qa : ∀ j : Nat, (j : Int) < (h_525.2.1 ax 6).toInt → h_525.2.2 qa j ≠ none := by
    intro j hj; rw [(hs.o gx trivial rfl).1] at hj; rw [(hs.a g_qa rfl j).2]; exact pf_qa j hj
  have pf_qp : ∀ j : Nat, (j : Int) < (h_525.2.1 ax 8).toInt → h_525.2.2 qp j ≠ none := by
    intro j hj; rw [(hs.o gx trivial rfl).1] at hj; rw [(hs.a g_qp rfl j).2]; exact pf_qp j hj
  have pf_qc : ∀ j : Nat, (j : Int) < (h_525.2.1 ax 11).toInt → h_525.2.2 qc j ≠ none := by
    intro j hj; rw [(hs.o gx trivial rfl).1] at hj; rw [(hs.a g_qc rfl j).2]; exact pf_qc j hj
  have pf_qh : ∀ j : Nat, (j : Int) < (h_525.2.1 ax 13).toInt → h_525.2.2 qh j ≠ none := by
    intro j hj; rw [(hs.o gx trivial rfl).1] at hj; rw [(hs.a g_qh rfl j).2]; exact pf_qh j hj
  have pf_ql : ∀ j : Nat, (j : Int) < (h_525.2.1 qw 0).toInt → h_525.2.2 ql j ≠ none := by
    intro j hj; rw [(hs.o g_qw trivial rfl).1] at hj; rw [(hs.a g_ql rfl j).2]; exact pf_ql j hj
  have cl_dead : hx_col 40 h_525 qp 7 = c_dead := (hx_col_S hs hTo g_qp tt_44 tt_4 rfl rfl).trans cl_dead
  have cl_isj : hx_col 40 h_525 qp 8 = c_isj := (hx_col_S hs hTo g_qp tt_44 tt_4 rfl rfl).trans cl_isj
  have nu_qp : hx_num 40 h_525 qp 0 (np.toInt) := hx_num_S hs hTo g_qp tt_44 tt_4 rfl rfl nu_qp
  have n_mw : h_525.2.1 mw = F_mw := (funext fun j => (hs.a g_mw rfl j).1).trans n_mw
  have n_mr : h_525.2.1 mr = F_mr := (funext fun j => (hs.a g_mr rfl j).1).trans n_mr
  have n_mp : h_525.2.1 mp = F_mp := (funext fun j => (hs.a g_mp rfl j).1).trans n_mp
  have n_mn : h_525.2.1 mn = F_mn := (funext fun j => (hs.a g_mn rfl j).1).trans n_mn
  have n_ml : h_525.2.1 ml = F_ml := (funext fun j => (hs.a g_ml rfl j).1).trans n_ml
  have n_mh : h_525.2.1 mh = F_mh := (funext fun j => (hs.a g_mh rfl j).1).trans n_mh
  have n_mt : h_525.2.1 mt = F_mt := (funext fun j => (hs.a g_mt rfl j).1).trans n_mt
  have n_dead : h_525.2.1 m_dead = F_dead := (funext fun j => (hs.a g_m_dead rfl j).1).trans n_dead
  have n_isj : h_525.2.1 m_isj = F_isj := (funext fun j => (hs.a g_m_isj rfl j).1).trans n_isj
  have gx := gx.S hs
  have gm := gm.S hs
  have g_qa := g_qa.S hs
  have g_qp := g_qp.S hs
  have g_qc := g_qc.S hs
  have g_qh := g_qh.S hs
  have g_qw := g_qw.S hs
  have g_ql := g_ql.S hs
  have g_mw := g_mw.S hs
  have g_mr := g_mr.S hs
  have g_mp := g_mp.S hs
  have g_mn := g_mn.S hs
  have g_ml := g_ml.S hs
  have g_mh := g_mh.S hs
  have g_mt := g_mt.S hs
  have g_qo_ln := g_qo_ln.S hs
  have g_m_dead := g_m_dead.S hs
  have g_m_isj := g_m_isj.S hs
  refine lv_pop hx hb dL_law_1125 rfl ?_
  refine lv_goto (tgt := 1379) hx hb dL_law_1126 (by decide) ?_
  refine W.widen (k := CC + 3) (n := SS + 179) (by omega) (by omega) ?_
  exact kk L_524 h_525 H locs ls hW ⟨hT, gx, gm, ⟨f_x_now.trans f_m_now.symm, f_x_personCount.trans f_m_persons.symm, f_x_claimCount.trans f_m_claims.symm, hx_ob f_qo_ln (f_o_ln.trans f_m_lines.symm), hx_ob f_qp (by rw [f_x_personCount]; exact nu_qp), hx_ob2 f_qp f_m_dead (by rw [cl_dead, n_dead]; exact eq_dead), hx_ob2 f_qp f_m_isj (by rw [cl_isj, n_isj]; exact eq_isj), trivial⟩, ⟨hx_ob f_qa pf_qa, hx_ob f_qp pf_qp, hx_ob f_qc pf_qc, hx_ob f_qh pf_qh, (fun w q hw hq => by obtain rfl : qw = w := Option.some.inj (f_qw.symm.trans hw); obtain rfl : ql = q := Option.some.inj (f_ql.symm.trans hq); exact pf_ql)⟩, ⟨hx_ob f_mw (by rw [n_mw]; exact hwd), hx_ob f_mr (by rw [n_mr, f_m_acts]; exact hWK), hx_ob2 f_mp f_mn (by rw [n_mp, n_mn, f_m_acts]; exact hRP), hx_ob f_ml (by rw [n_ml, f_m_claims, f_m_acts]; exact hPL), hx_ob f_mh (by rw [n_mh, f_m_heardMany, f_m_claims]; exact hHC), hx_ob f_mt (by rw [n_mt]; exact (hx_TR_le hTR (by omega)))⟩⟩ hl

set_option maxHeartbeats 4000000 in
set_option maxRecDepth 100000 in
theorem law_case_21 {p : Program} {e : Env} {s : State} {m : MethodId} {below : List Frame} {meth : Method} {c : Code} (l : Launch) {b LN : Nat} {xs : Nat → Int32} (hx : p.tables.exec = Jvm.exec) (hb : c.code = code) (hr : meth.sig.returnType = ret) (hlocks : meth.locks = false) (hml : c.maxLocals = 4) (hown : s.vm.findClass "SmallCourtLaw" = some m.cls) (hts : ∀ w ∈ hx_all, w.before #[Value.ref b] s = true) (hX : va_X b LN xs s s.heap) (hbl : b < s.heap.size) (hbA : ¬ s.heap.size ≤ b) (hLN : LN ≤ 3584) (dC : Nat → ClassId) (dI : Nat → Nat → Nat) (dA : Nat → ClassId) (b0 : hx_z) (ax am : Nat) (T1 : Int) (hT0 : 0 ≤ T1) (hT1 : T1 ≤ 511) (i : Int32) (hi0 : 0 ≤ i.toInt) (hiL : i.toInt + 7 ≤ LN) (CC SS : Nat) (hCC : CC + 3 ≤ 600000) (hSS : SS + 179 ≤ 7302250) (L1 : List Nat) (hl1 : hx_h) (H : Heap) (locs : List Loc) (ls : Array Slot) (hW : hx_W T_tb (P_ty dA) (dC, dI) vwCl (fun q : Nat => s.heap.size ≤ q) s.heap L1 hl1 s H locs) (hZ : hx_Xt (fun q : Nat => s.heap.size ≤ q) b0 s) (hI : hx_IV T1 ax am L1 hl1) (hl : lv_has ls 4 [(3, .int i), (2, .ref am), (1, .ref ax), (0, .ref b)]) (kk : ∀ (L2 : List Nat) (h2 : hx_h) (H2 : Heap) (locs2 : List Loc) (ls2 : Array Slot), hx_W T_tb (P_ty dA) (dC, dI) vwCl (fun q : Nat => s.heap.size ≤ q) s.heap L2 h2 s H2 locs2 → hx_IV (T1 + 1) ax am L2 h2 → lv_has ls2 4 [(3, .int i), (2, .ref am), (1, .ref ax), (0, .ref b)] → W p l e room_1 s m #[Value.ref b] below meth c H2 locs2 (CC + 3) (SS + 179) (lw_Z below #[Value.ref b] s) (F0 m 1379 ls2 [])) : W p l e room_1 s m #[Value.ref b] below meth c H locs CC SS (lw_Z below #[Value.ref b] s) (F0 m 1129 ls []) := by
  obtain ⟨hT, gx, gm, ⟨he_nw, he_np, he_c0, ho_ln, hn_qp, hc_dead, hc_isj, -⟩, ⟨ia, ip, ic, ih, il⟩, ⟨jw, jr, jp, jl, jh, jt⟩⟩ := hI
  obtain ⟨qa, f_qa, g_qa⟩ := hx_rf hT gx tt_9 (k := 5) (u := 43) rfl
  have pf_qa := ia qa f_qa
  obtain ⟨qp, f_qp, g_qp⟩ := hx_rf hT gx tt_9 (k := 7) (u := 44) rfl
  have pf_qp := ip qp f_qp
  obtain ⟨qc, f_qc, g_qc⟩ := hx_rf hT gx tt_9 (k := 10) (u := 45) rfl
  have pf_qc := ic qc f_qc
  obtain ⟨qh, f_qh, g_qh⟩ := hx_rf hT gx tt_9 (k := 12) (u := 46) rfl
  have pf_qh := ih qh f_qh
  obtain ⟨qw, f_qw, g_qw⟩ := hx_rf hT gx tt_9 (k := 19) (u := 8) rfl
  obtain ⟨ql, f_ql, g_ql⟩ := hx_rf hT g_qw tt_8 (k := 3) (u := 40) rfl
  have pf_ql := il qw ql f_qw f_ql
  obtain ⟨nw, f_m_now⟩ : ∃ y : Int32, hl1.2.1 am 0 = y := ⟨_, rfl⟩
  have b_nw := hT.gi gm tt_10 (k := 0) rfl
  rw [f_m_now] at b_nw
  have b_nw : 0 ≤ nw.toInt ∧ nw.toInt ≤ 7999 := b_nw
  obtain ⟨np, f_m_persons⟩ : ∃ y : Int32, hl1.2.1 am 20 = y := ⟨_, rfl⟩
  have b_np := hT.gi gm tt_10 (k := 20) rfl
  rw [f_m_persons] at b_np
  have b_np : 0 ≤ np.toInt ∧ np.toInt ≤ 40 := b_np
  obtain ⟨c0, f_m_claims⟩ : ∃ y : Int32, hl1.2.1 am 36 = y := ⟨_, rfl⟩
  have b_c0 := hT.gi gm tt_10 (k := 36) rfl
  rw [f_m_claims] at b_c0
  have b_c0 : 0 ≤ c0.toInt ∧ c0.toInt ≤ 100 := b_c0
  obtain ⟨ln, f_m_lines⟩ : ∃ y : Int32, hl1.2.1 am 29 = y := ⟨_, rfl⟩
  have b_ln := hT.gi gm tt_10 (k := 29) rfl
  rw [f_m_lines] at b_ln
  have b_ln : 0 ≤ ln.toInt ∧ ln.toInt ≤ 400 := b_ln
  obtain ⟨a0, f_m_acts⟩ : ∃ y : Int32, hl1.2.1 am 1 = y := ⟨_, rfl⟩
  have b_a0 := hT.gi gm tt_10 (k := 1) rfl
  rw [f_m_acts] at b_a0
  have b_a0 : 0 ≤ a0.toInt ∧ a0.toInt ≤ 8 := b_a0
  obtain ⟨m0, f_m_heardMany⟩ : ∃ y : Int32, hl1.2.1 am 57 = y := ⟨_, rfl⟩
  have b_m0 := hT.gi gm tt_10 (k := 57) rfl
  rw [f_m_heardMany] at b_m0
  have b_m0 : 0 ≤ m0.toInt ∧ m0.toInt ≤ 100 := b_m0
  have f_x_now : hl1.2.1 ax 2 = nw := he_nw.trans f_m_now
  have f_x_personCount : hl1.2.1 ax 8 = np := he_np.trans f_m_persons
  have f_x_claimCount : hl1.2.1 ax 11 = c0 := he_c0.trans f_m_claims
  obtain ⟨mw, f_mw, g_mw⟩ := hx_rf hT gm tt_10 (k := 19) (u := 57) rfl
  obtain ⟨F_mw, n_mw⟩ : ∃ g : Nat → Int32, hl1.2.1 mw = g := ⟨_, rfl⟩
  obtain ⟨mr, f_mr, g_mr⟩ := hx_rf hT gm tt_10 (k := 3) (u := 50) rfl
  obtain ⟨F_mr, n_mr⟩ : ∃ g : Nat → Int32, hl1.2.1 mr = g := ⟨_, rfl⟩
  obtain ⟨mp, f_mp, g_mp⟩ := hx_rf hT gm tt_10 (k := 5) (u := 52) rfl
  obtain ⟨F_mp, n_mp⟩ : ∃ g : Nat → Int32, hl1.2.1 mp = g := ⟨_, rfl⟩
  obtain ⟨mn, f_mn, g_mn⟩ := hx_rf hT gm tt_10 (k := 4) (u := 51) rfl
  obtain ⟨F_mn, n_mn⟩ : ∃ g : Nat → Int32, hl1.2.1 mn = g := ⟨_, rfl⟩
  obtain ⟨ml, f_ml, g_ml⟩ := hx_rf hT gm tt_10 (k := 44) (u := 79) rfl
  obtain ⟨F_ml, n_ml⟩ : ∃ g : Nat → Int32, hl1.2.1 ml = g := ⟨_, rfl⟩
  obtain ⟨mh, f_mh, g_mh⟩ := hx_rf hT gm tt_10 (k := 47) (u := 82) rfl
  obtain ⟨F_mh, n_mh⟩ : ∃ g : Nat → Int32, hl1.2.1 mh = g := ⟨_, rfl⟩
  obtain ⟨mt, f_mt, g_mt⟩ := hx_rf hT gm tt_10 (k := 45) (u := 80) rfl
  obtain ⟨F_mt, n_mt⟩ : ∃ g : Nat → Int32, hl1.2.1 mt = g := ⟨_, rfl⟩
  obtain ⟨qo_ln, f_qo_ln, g_qo_ln⟩ := hx_rf hT gx tt_9 (k := 9) (u := 1) rfl
  have f_o_ln : hl1.2.1 qo_ln 0 = ln := (ho_ln qo_ln f_qo_ln).trans f_m_lines
  have nu_qp := hn_qp qp f_qp; rw [f_x_personCount] at nu_qp
  obtain ⟨c_dead, cl_dead⟩ : ∃ g : Nat → Int32, hx_col 40 hl1 qp 7 = g := ⟨_, rfl⟩
  obtain ⟨m_dead, f_m_dead, g_m_dead⟩ := hx_rf hT gm tt_10 (k := 27) (u := 64) rfl
  obtain ⟨F_dead, n_dead⟩ : ∃ g : Nat → Int32, hl1.2.1 m_dead = g := ⟨_, rfl⟩
  have eq_dead := hc_dead qp m_dead f_qp f_m_dead; rw [cl_dead, n_dead] at eq_dead
  have z_dead : np.toInt.toNat < 40 → c_dead np.toInt.toNat = 0 := fun hj => hx_num_z nu_qp cl_dead hj (by omega)
  obtain ⟨c_isj, cl_isj⟩ : ∃ g : Nat → Int32, hx_col 40 hl1 qp 8 = g := ⟨_, rfl⟩
  obtain ⟨m_isj, f_m_isj, g_m_isj⟩ := hx_rf hT gm tt_10 (k := 28) (u := 65) rfl
  obtain ⟨F_isj, n_isj⟩ : ∃ g : Nat → Int32, hl1.2.1 m_isj = g := ⟨_, rfl⟩
  have eq_isj := hc_isj qp m_isj f_qp f_m_isj; rw [cl_isj, n_isj] at eq_isj
  have z_isj : np.toInt.toNat < 40 → c_isj np.toInt.toNat = 0 := fun hj => hx_num_z nu_qp cl_isj hj (by omega)
  have hwd := jw mw f_mw; rw [n_mw] at hwd
  have hWK := jr mr f_mr; rw [n_mr, f_m_acts] at hWK
  have hRP := jp mp mn f_mp f_mn; rw [n_mp, n_mn, f_m_acts] at hRP
  have hPL := jl ml f_ml; rw [n_ml, f_m_claims, f_m_acts] at hPL
  have hHC := jh mh f_mh; rw [n_mh, f_m_heardMany, f_m_claims] at hHC
  have hTR := jt mt f_mt; rw [n_mt] at hTR
  refine lv_aload_n hx hb dL_law_1129 rfl (lv_at hl 2 rfl) ?_
  refine lv_aload_n hx hb dL_law_1130 rfl (lv_at hl 3 rfl) ?_
  refine lv_iload_n hx hb dL_law_1131 rfl (lv_at hl 0 rfl) ?_
  refine lv_iconst (v := 1) hx hb dL_law_1132 (by decide) ?_
  refine lv_iadd hx hb dL_law_1133 ?_
  have rg_529 := i32_r i
  refine lv_topi (fun x_530 ex_530 => ?_)
  have zx_530 : x_530.toInt = i.toInt + 1 := by rw [ex_530]; exact i32_add rfl (by decide) (by omega) (by omega)
  refine va_sld hx hb hX hbl hbA hW.2.2.2.1 (vp_in_iff.mpr ⟨by omega, by omega⟩) dL_law_1134 ?_
  refine lv_topi (fun x_531 ex_531 => ?_)
  refine lv_aload_n hx hb dL_law_1135 rfl (lv_at hl 3 rfl) ?_
  refine lv_iload_n hx hb dL_law_1136 rfl (lv_at hl 0 rfl) ?_
  refine lv_iconst (v := 2) hx hb dL_law_1137 (by decide) ?_
  refine lv_iadd hx hb dL_law_1138 ?_
  refine lv_topi (fun x_532 ex_532 => ?_)
  have zx_532 : x_532.toInt = i.toInt + 2 := by rw [ex_532]; exact i32_add rfl (by decide) (by omega) (by omega)
  refine va_sld hx hb hX hbl hbA hW.2.2.2.1 (vp_in_iff.mpr ⟨by omega, by omega⟩) dL_law_1139 ?_
  refine lv_topi (fun x_533 ex_533 => ?_)
  have hTo := hT
  refine hx_goi (hx_runVX (As := [.int x_531, .int x_533]) (rest := []) ⟨hx, hb, hml, hown, hts⟩ hW gx tt_9 (T := TX9) (N := 20) rfl (t_X9_plan l dC dI dA L1 hl1 H.size b0 ax x_531 x_533 hT gx qp g_qp f_qp qc g_qc f_qc qa g_qa f_qa pf_qp pf_qc pf_qa) hZ (cwV 2 hts (hx_gV kw_947 kw_944 kw_945 kw_946 kw_94) rfl rfl rfl (by decide +kernel) ⟨Nat.le_of_ble_eq_true rfl, Nat.le_of_ble_eq_true rfl⟩) rfl hl.1 rfl (Nat.le_of_ble_eq_true rfl) dL_law_1140 ⟨(show CC + 0 ≤ 600000 from by omega), (show SS + 0 ≤ 7302250 from by omega)⟩) hW (fun r_536 L_534 h_535 H locs p_537 hW => ?_)
  obtain ⟨hr_538, hT, hs⟩ := p_537
  have hT : hx_T T_tb L_534 h_535 := hT
  have hs : hx_S T_tb [(5, 0), (5, 1), (5, 9), (5, 10), (5, 11), (5, 12), (27, 0), (28, 0), (29, 0), (30, 0), (31, 0), (32, 0), (33, 0)] L1 hl1 L_534 h_535 := hs
  have f_qa := (hs.o gx trivial rfl).2.trans f_qa
  have f_qp := (hs.o gx trivial rfl).2.trans f_qp
  have f_qc := (hs.o gx trivial rfl).2.trans f_qc
  have f_qh := (hs.o gx trivial rfl).2.trans f_qh
  have f_qw := (hs.o gx trivial rfl).2.trans f_qw
  have f_ql := (hs.o g_qw trivial rfl).2.trans f_ql
  have f_m_now := (hs.o gm trivial rfl).1.trans f_m_now
  have f_m_persons := (hs.o gm trivial rfl).1.trans f_m_persons
  have f_m_claims := (hs.o gm trivial rfl).1.trans f_m_claims
  have f_m_lines := (hs.o gm trivial rfl).1.trans f_m_lines
  have f_m_acts := (hs.o gm trivial rfl).1.trans f_m_acts
  have f_m_heardMany := (hs.o gm trivial rfl).1.trans f_m_heardMany
  have f_x_now := (hs.o gx trivial rfl).1.trans f_x_now
  have f_x_personCount := (hs.o gx trivial rfl).1.trans f_x_personCount
  have f_x_claimCount := (hs.o gx trivial rfl).1.trans f_x_claimCount
  have f_mw := (hs.o gm trivial rfl).2.trans f_mw
  have f_mr := (hs.o gm trivial rfl).2.trans f_mr
  have f_mp := (hs.o gm trivial rfl).2.trans f_mp
  have f_mn := (hs.o gm trivial rfl).2.trans f_mn
  have f_ml := (hs.o gm trivial rfl).2.trans f_ml
  have f_mh := (hs.o gm trivial rfl).2.trans f_mh
  have f_mt := (hs.o gm trivial rfl).2.trans f_mt
  have f_qo_ln := (hs.o gx trivial rfl).2.trans f_qo_ln
  have f_o_ln := (hs.o g_qo_ln trivial rfl).1.trans f_o_ln
  have f_m_dead := (hs.o gm trivial rfl).2.trans f_m_dead
  have f_m_isj := (hs.o gm trivial rfl).2.trans f_m_isj
  have pf_qa : ∀ j : Nat, (j : Int) < (h_535.2.1 ax 6).toInt → h_535.2.2 qa j ≠ none := by
    intro j hj; rw [(hs.o gx trivial rfl).1] at hj; rw [(hs.a g_qa rfl j).2]; exact pf_qa j hj
  have pf_qp : ∀ j : Nat, (j : Int) < (h_535.2.1 ax 8).toInt → h_535.2.2 qp j ≠ none := by
    intro j hj; rw [(hs.o gx trivial rfl).1] at hj; rw [(hs.a g_qp rfl j).2]; exact pf_qp j hj
  have pf_qc : ∀ j : Nat, (j : Int) < (h_535.2.1 ax 11).toInt → h_535.2.2 qc j ≠ none := by
    intro j hj; rw [(hs.o gx trivial rfl).1] at hj; rw [(hs.a g_qc rfl j).2]; exact pf_qc j hj
  have pf_qh : ∀ j : Nat, (j : Int) < (h_535.2.1 ax 13).toInt → h_535.2.2 qh j ≠ none := by
    intro j hj; rw [(hs.o gx trivial rfl).1] at hj; rw [(hs.a g_qh rfl j).2]; exact pf_qh j hj
  have pf_ql : ∀ j : Nat, (j : Int) < (h_535.2.1 qw 0).toInt → h_535.2.2 ql j ≠ none := by
    intro j hj; rw [(hs.o g_qw trivial rfl).1] at hj; rw [(hs.a g_ql rfl j).2]; exact pf_ql j hj
  have cl_dead : hx_col 40 h_535 qp 7 = c_dead := (hx_col_S hs hTo g_qp tt_44 tt_4 rfl rfl).trans cl_dead
  have cl_isj : hx_col 40 h_535 qp 8 = c_isj := (hx_col_S hs hTo g_qp tt_44 tt_4 rfl rfl).trans cl_isj
  have nu_qp : hx_num 40 h_535 qp 0 (np.toInt) := hx_num_S hs hTo g_qp tt_44 tt_4 rfl rfl nu_qp
  have n_mw : h_535.2.1 mw = F_mw := (funext fun j => (hs.a g_mw rfl j).1).trans n_mw
  have n_mr : h_535.2.1 mr = F_mr := (funext fun j => (hs.a g_mr rfl j).1).trans n_mr
  have n_mp : h_535.2.1 mp = F_mp := (funext fun j => (hs.a g_mp rfl j).1).trans n_mp
  have n_mn : h_535.2.1 mn = F_mn := (funext fun j => (hs.a g_mn rfl j).1).trans n_mn
  have n_ml : h_535.2.1 ml = F_ml := (funext fun j => (hs.a g_ml rfl j).1).trans n_ml
  have n_mh : h_535.2.1 mh = F_mh := (funext fun j => (hs.a g_mh rfl j).1).trans n_mh
  have n_mt : h_535.2.1 mt = F_mt := (funext fun j => (hs.a g_mt rfl j).1).trans n_mt
  have n_dead : h_535.2.1 m_dead = F_dead := (funext fun j => (hs.a g_m_dead rfl j).1).trans n_dead
  have n_isj : h_535.2.1 m_isj = F_isj := (funext fun j => (hs.a g_m_isj rfl j).1).trans n_isj
  have gx := gx.S hs
  have gm := gm.S hs
  have g_qa := g_qa.S hs
  have g_qp := g_qp.S hs
  have g_qc := g_qc.S hs
  have g_qh := g_qh.S hs
  have g_qw := g_qw.S hs
  have g_ql := g_ql.S hs
  have g_mw := g_mw.S hs
  have g_mr := g_mr.S hs
  have g_mp := g_mp.S hs
  have g_mn := g_mn.S hs
  have g_ml := g_ml.S hs
  have g_mh := g_mh.S hs
  have g_mt := g_mt.S hs
  have g_qo_ln := g_qo_ln.S hs
  have g_m_dead := g_m_dead.S hs
  have g_m_isj := g_m_isj.S hs
  refine lv_pop hx hb dL_law_1143 rfl ?_
  refine lv_aload_n hx hb dL_law_1144 rfl (lv_at hl 1 rfl) ?_
  refine lv_aload_n hx hb dL_law_1145 rfl (lv_at hl 3 rfl) ?_
  refine lv_iload_n hx hb dL_law_1146 rfl (lv_at hl 0 rfl) ?_
  refine lv_iconst (v := 1) hx hb dL_law_1147 (by decide) ?_
  refine lv_iadd hx hb dL_law_1148 ?_
  refine lv_topi (fun x_539 ex_539 => ?_)
  have zx_539 : x_539.toInt = i.toInt + 1 := by rw [ex_539]; exact i32_add rfl (by decide) (by omega) (by omega)
  obtain rfl : x_530 = x_539 := ex_530.trans ex_539.symm
  refine va_sld hx hb hX hbl hbA hW.2.2.2.1 (vp_in_iff.mpr ⟨by omega, by omega⟩) dL_law_1149 ?_
  refine lv_topi (fun x_540 ex_540 => ?_)
  obtain rfl : x_531 = x_540 := ex_531.trans ex_540.symm
  refine lv_aload_n hx hb dL_law_1150 rfl (lv_at hl 3 rfl) ?_
  refine lv_iload_n hx hb dL_law_1151 rfl (lv_at hl 0 rfl) ?_
  refine lv_iconst (v := 2) hx hb dL_law_1152 (by decide) ?_
  refine lv_iadd hx hb dL_law_1153 ?_
  refine lv_topi (fun x_541 ex_541 => ?_)
  have zx_541 : x_541.toInt = i.toInt + 2 := by rw [ex_541]; exact i32_add rfl (by decide) (by omega) (by omega)
  obtain rfl : x_532 = x_541 := ex_532.trans ex_541.symm
  refine va_sld hx hb hX hbl hbA hW.2.2.2.1 (vp_in_iff.mpr ⟨by omega, by omega⟩) dL_law_1154 ?_
  refine lv_topi (fun x_542 ex_542 => ?_)
  obtain rfl : x_533 = x_542 := ex_533.trans ex_542.symm
  have hTo := hT
  obtain ⟨q_543, fq_543, gq_543⟩ := hx_rf hT gm tt_10 (k := 78) (u := 104) rfl
  obtain ⟨q_544, fq_544, gq_544⟩ := hx_rf hT gm tt_10 (k := 79) (u := 105) rfl
  refine hx_goi (hx_runV (As := [.int x_531, .int x_533]) (rest := []) ⟨hx, hb, hml, hown, hts⟩ hW gm tt_10 (T := TX10) (N := 98) rfl (t_X10_plan l dC dI dA L_534 h_535 H.size am x_531 x_533 hT gm mr g_mr f_mr ml g_ml f_ml q_543 gq_543 fq_543 q_544 gq_544 fq_544 F_mr n_mr F_ml n_ml a0 f_m_acts c0 f_m_claims hWK hPL) (cwV 2 hts (hx_gV kw_1677 kw_1674 kw_1675 kw_1676 kw_103) rfl rfl rfl (by decide +kernel) ⟨Nat.le_of_ble_eq_true rfl, Nat.le_of_ble_eq_true rfl⟩) rfl hl.1 rfl (Nat.le_of_ble_eq_true rfl) dL_law_1155 ⟨(show CC + 0 + 0 ≤ 600000 from by omega), (show SS + 0 + 0 ≤ 7302250 from by omega)⟩) hW (fun r_547 L_545 h_546 H locs p_548 hW => ?_)
  obtain ⟨hr_549, hT, hs⟩ := p_548
  have hT : hx_T T_tb L_545 h_546 := hT
  have hs : hx_S T_tb [(10, 67), (10, 68), (10, 69), (10, 70), (10, 71), (10, 72), (10, 75), (100, 0), (101, 0), (102, 0), (103, 0), (104, 0), (105, 0), (106, 0), (107, 0)] L_534 h_535 L_545 h_546 := hs
  have f_qa := (hs.o gx trivial rfl).2.trans f_qa
  have f_qp := (hs.o gx trivial rfl).2.trans f_qp
  have f_qc := (hs.o gx trivial rfl).2.trans f_qc
  have f_qh := (hs.o gx trivial rfl).2.trans f_qh
  have f_qw := (hs.o gx trivial rfl).2.trans f_qw
  have f_ql := (hs.o g_qw trivial rfl).2.trans f_ql
  have f_m_now := (hs.o gm trivial rfl).1.trans f_m_now
  have f_m_persons := (hs.o gm trivial rfl).1.trans f_m_persons
  have f_m_claims := (hs.o gm trivial rfl).1.trans f_m_claims
  have f_m_lines := (hs.o gm trivial rfl).1.trans f_m_lines
  have f_m_acts := (hs.o gm trivial rfl).1.trans f_m_acts
  have f_m_heardMany := (hs.o gm trivial rfl).1.trans f_m_heardMany
  have f_x_now := (hs.o gx trivial rfl).1.trans f_x_now
  have f_x_personCount := (hs.o gx trivial rfl).1.trans f_x_personCount
  have f_x_claimCount := (hs.o gx trivial rfl).1.trans f_x_claimCount
  have f_mw := (hs.o gm trivial rfl).2.trans f_mw
  have f_mr := (hs.o gm trivial rfl).2.trans f_mr
  have f_mp := (hs.o gm trivial rfl).2.trans f_mp
  have f_mn := (hs.o gm trivial rfl).2.trans f_mn
  have f_ml := (hs.o gm trivial rfl).2.trans f_ml
  have f_mh := (hs.o gm trivial rfl).2.trans f_mh
  have f_mt := (hs.o gm trivial rfl).2.trans f_mt
  have f_qo_ln := (hs.o gx trivial rfl).2.trans f_qo_ln
  have f_o_ln := (hs.o g_qo_ln trivial rfl).1.trans f_o_ln
  have f_m_dead := (hs.o gm trivial rfl).2.trans f_m_dead
  have f_m_isj := (hs.o gm trivial rfl).2.trans f_m_isj
  have fq_543 := (hs.o gm trivial rfl).2.trans fq_543
  have fq_544 := (hs.o gm trivial rfl).2.trans fq_544
  have pf_qa : ∀ j : Nat, (j : Int) < (h_546.2.1 ax 6).toInt → h_546.2.2 qa j ≠ none := by
    intro j hj; rw [(hs.o gx trivial rfl).1] at hj; rw [(hs.a g_qa rfl j).2]; exact pf_qa j hj
  have pf_qp : ∀ j : Nat, (j : Int) < (h_546.2.1 ax 8).toInt → h_546.2.2 qp j ≠ none := by
    intro j hj; rw [(hs.o gx trivial rfl).1] at hj; rw [(hs.a g_qp rfl j).2]; exact pf_qp j hj
  have pf_qc : ∀ j : Nat, (j : Int) < (h_546.2.1 ax 11).toInt → h_546.2.2 qc j ≠ none := by
    intro j hj; rw [(hs.o gx trivial rfl).1] at hj; rw [(hs.a g_qc rfl j).2]; exact pf_qc j hj
  have pf_qh : ∀ j : Nat, (j : Int) < (h_546.2.1 ax 13).toInt → h_546.2.2 qh j ≠ none := by
    intro j hj; rw [(hs.o gx trivial rfl).1] at hj; rw [(hs.a g_qh rfl j).2]; exact pf_qh j hj
  have pf_ql : ∀ j : Nat, (j : Int) < (h_546.2.1 qw 0).toInt → h_546.2.2 ql j ≠ none := by
    intro j hj; rw [(hs.o g_qw trivial rfl).1] at hj; rw [(hs.a g_ql rfl j).2]; exact pf_ql j hj
  have cl_dead : hx_col 40 h_546 qp 7 = c_dead := (hx_col_S hs hTo g_qp tt_44 tt_4 rfl rfl).trans cl_dead
  have cl_isj : hx_col 40 h_546 qp 8 = c_isj := (hx_col_S hs hTo g_qp tt_44 tt_4 rfl rfl).trans cl_isj
  have nu_qp : hx_num 40 h_546 qp 0 (np.toInt) := hx_num_S hs hTo g_qp tt_44 tt_4 rfl rfl nu_qp
  have n_mw : h_546.2.1 mw = F_mw := (funext fun j => (hs.a g_mw rfl j).1).trans n_mw
  have n_mr : h_546.2.1 mr = F_mr := (funext fun j => (hs.a g_mr rfl j).1).trans n_mr
  have n_mp : h_546.2.1 mp = F_mp := (funext fun j => (hs.a g_mp rfl j).1).trans n_mp
  have n_mn : h_546.2.1 mn = F_mn := (funext fun j => (hs.a g_mn rfl j).1).trans n_mn
  have n_ml : h_546.2.1 ml = F_ml := (funext fun j => (hs.a g_ml rfl j).1).trans n_ml
  have n_mh : h_546.2.1 mh = F_mh := (funext fun j => (hs.a g_mh rfl j).1).trans n_mh
  have n_mt : h_546.2.1 mt = F_mt := (funext fun j => (hs.a g_mt rfl j).1).trans n_mt
  have n_dead : h_546.2.1 m_dead = F_dead := (funext fun j => (hs.a g_m_dead rfl j).1).trans n_dead
  have n_isj : h_546.2.1 m_isj = F_isj := (funext fun j => (hs.a g_m_isj rfl j).1).trans n_isj
  have gx := gx.S hs
  have gm := gm.S hs
  have g_qa := g_qa.S hs
  have g_qp := g_qp.S hs
  have g_qc := g_qc.S hs
  have g_qh := g_qh.S hs
  have g_qw := g_qw.S hs
  have g_ql := g_ql.S hs
  have g_mw := g_mw.S hs
  have g_mr := g_mr.S hs
  have g_mp := g_mp.S hs
  have g_mn := g_mn.S hs
  have g_ml := g_ml.S hs
  have g_mh := g_mh.S hs
  have g_mt := g_mt.S hs
  have g_qo_ln := g_qo_ln.S hs
  have g_m_dead := g_m_dead.S hs
  have g_m_isj := g_m_isj.S hs
  have gq_543 := gq_543.S hs
  have gq_544 := gq_544.S hs
  refine lv_pop hx hb dL_law_1158 rfl ?_
  refine lv_goto (tgt := 1379) hx hb dL_law_1159 (by decide) ?_
  refine W.widen (k := CC + 3) (n := SS + 179) (by omega) (by omega) ?_
  exact kk L_545 h_546 H locs ls hW ⟨hT, gx, gm, ⟨f_x_now.trans f_m_now.symm, f_x_personCount.trans f_m_persons.symm, f_x_claimCount.trans f_m_claims.symm, hx_ob f_qo_ln (f_o_ln.trans f_m_lines.symm), hx_ob f_qp (by rw [f_x_personCount]; exact nu_qp), hx_ob2 f_qp f_m_dead (by rw [cl_dead, n_dead]; exact eq_dead), hx_ob2 f_qp f_m_isj (by rw [cl_isj, n_isj]; exact eq_isj), trivial⟩, ⟨hx_ob f_qa pf_qa, hx_ob f_qp pf_qp, hx_ob f_qc pf_qc, hx_ob f_qh pf_qh, (fun w q hw hq => by obtain rfl : qw = w := Option.some.inj (f_qw.symm.trans hw); obtain rfl : ql = q := Option.some.inj (f_ql.symm.trans hq); exact pf_ql)⟩, ⟨hx_ob f_mw (by rw [n_mw]; exact hwd), hx_ob f_mr (by rw [n_mr, f_m_acts]; exact hWK), hx_ob2 f_mp f_mn (by rw [n_mp, n_mn, f_m_acts]; exact hRP), hx_ob f_ml (by rw [n_ml, f_m_claims, f_m_acts]; exact hPL), hx_ob f_mh (by rw [n_mh, f_m_heardMany, f_m_claims]; exact hHC), hx_ob f_mt (by rw [n_mt]; exact (hx_TR_le hTR (by omega)))⟩⟩ hl

set_option maxHeartbeats 4000000 in
set_option maxRecDepth 100000 in
theorem law_case_22 {p : Program} {e : Env} {s : State} {m : MethodId} {below : List Frame} {meth : Method} {c : Code} (l : Launch) {b LN : Nat} {xs : Nat → Int32} (hx : p.tables.exec = Jvm.exec) (hb : c.code = code) (hr : meth.sig.returnType = ret) (hlocks : meth.locks = false) (hml : c.maxLocals = 4) (hown : s.vm.findClass "SmallCourtLaw" = some m.cls) (hts : ∀ w ∈ hx_all, w.before #[Value.ref b] s = true) (hX : va_X b LN xs s s.heap) (hbl : b < s.heap.size) (hbA : ¬ s.heap.size ≤ b) (hLN : LN ≤ 3584) (dC : Nat → ClassId) (dI : Nat → Nat → Nat) (dA : Nat → ClassId) (b0 : hx_z) (ax am : Nat) (T1 : Int) (hT0 : 0 ≤ T1) (hT1 : T1 ≤ 511) (i : Int32) (hi0 : 0 ≤ i.toInt) (hiL : i.toInt + 7 ≤ LN) (CC SS : Nat) (hCC : CC + 3 ≤ 600000) (hSS : SS + 179 ≤ 7302250) (L1 : List Nat) (hl1 : hx_h) (H : Heap) (locs : List Loc) (ls : Array Slot) (hW : hx_W T_tb (P_ty dA) (dC, dI) vwCl (fun q : Nat => s.heap.size ≤ q) s.heap L1 hl1 s H locs) (hZ : hx_Xt (fun q : Nat => s.heap.size ≤ q) b0 s) (hI : hx_IV T1 ax am L1 hl1) (hl : lv_has ls 4 [(3, .int i), (2, .ref am), (1, .ref ax), (0, .ref b)]) (kk : ∀ (L2 : List Nat) (h2 : hx_h) (H2 : Heap) (locs2 : List Loc) (ls2 : Array Slot), hx_W T_tb (P_ty dA) (dC, dI) vwCl (fun q : Nat => s.heap.size ≤ q) s.heap L2 h2 s H2 locs2 → hx_IV (T1 + 1) ax am L2 h2 → lv_has ls2 4 [(3, .int i), (2, .ref am), (1, .ref ax), (0, .ref b)] → W p l e room_1 s m #[Value.ref b] below meth c H2 locs2 (CC + 3) (SS + 179) (lw_Z below #[Value.ref b] s) (F0 m 1379 ls2 [])) : W p l e room_1 s m #[Value.ref b] below meth c H locs CC SS (lw_Z below #[Value.ref b] s) (F0 m 1162 ls []) := by
  obtain ⟨hT, gx, gm, ⟨he_nw, he_np, he_c0, ho_ln, hn_qp, hc_dead, hc_isj, -⟩, ⟨ia, ip, ic, ih, il⟩, ⟨jw, jr, jp, jl, jh, jt⟩⟩ := hI
  obtain ⟨qa, f_qa, g_qa⟩ := hx_rf hT gx tt_9 (k := 5) (u := 43) rfl
  have pf_qa := ia qa f_qa
  obtain ⟨qp, f_qp, g_qp⟩ := hx_rf hT gx tt_9 (k := 7) (u := 44) rfl
  have pf_qp := ip qp f_qp
  obtain ⟨qc, f_qc, g_qc⟩ := hx_rf hT gx tt_9 (k := 10) (u := 45) rfl
  have pf_qc := ic qc f_qc
  obtain ⟨qh, f_qh, g_qh⟩ := hx_rf hT gx tt_9 (k := 12) (u := 46) rfl
  have pf_qh := ih qh f_qh
  obtain ⟨qw, f_qw, g_qw⟩ := hx_rf hT gx tt_9 (k := 19) (u := 8) rfl
  obtain ⟨ql, f_ql, g_ql⟩ := hx_rf hT g_qw tt_8 (k := 3) (u := 40) rfl
  have pf_ql := il qw ql f_qw f_ql
  obtain ⟨nw, f_m_now⟩ : ∃ y : Int32, hl1.2.1 am 0 = y := ⟨_, rfl⟩
  have b_nw := hT.gi gm tt_10 (k := 0) rfl
  rw [f_m_now] at b_nw
  have b_nw : 0 ≤ nw.toInt ∧ nw.toInt ≤ 7999 := b_nw
  obtain ⟨np, f_m_persons⟩ : ∃ y : Int32, hl1.2.1 am 20 = y := ⟨_, rfl⟩
  have b_np := hT.gi gm tt_10 (k := 20) rfl
  rw [f_m_persons] at b_np
  have b_np : 0 ≤ np.toInt ∧ np.toInt ≤ 40 := b_np
  obtain ⟨c0, f_m_claims⟩ : ∃ y : Int32, hl1.2.1 am 36 = y := ⟨_, rfl⟩
  have b_c0 := hT.gi gm tt_10 (k := 36) rfl
  rw [f_m_claims] at b_c0
  have b_c0 : 0 ≤ c0.toInt ∧ c0.toInt ≤ 100 := b_c0
  obtain ⟨ln, f_m_lines⟩ : ∃ y : Int32, hl1.2.1 am 29 = y := ⟨_, rfl⟩
  have b_ln := hT.gi gm tt_10 (k := 29) rfl
  rw [f_m_lines] at b_ln
  have b_ln : 0 ≤ ln.toInt ∧ ln.toInt ≤ 400 := b_ln
  obtain ⟨a0, f_m_acts⟩ : ∃ y : Int32, hl1.2.1 am 1 = y := ⟨_, rfl⟩
  have b_a0 := hT.gi gm tt_10 (k := 1) rfl
  rw [f_m_acts] at b_a0
  have b_a0 : 0 ≤ a0.toInt ∧ a0.toInt ≤ 8 := b_a0
  obtain ⟨m0, f_m_heardMany⟩ : ∃ y : Int32, hl1.2.1 am 57 = y := ⟨_, rfl⟩
  have b_m0 := hT.gi gm tt_10 (k := 57) rfl
  rw [f_m_heardMany] at b_m0
  have b_m0 : 0 ≤ m0.toInt ∧ m0.toInt ≤ 100 := b_m0
  have f_x_now : hl1.2.1 ax 2 = nw := he_nw.trans f_m_now
  have f_x_personCount : hl1.2.1 ax 8 = np := he_np.trans f_m_persons
  have f_x_claimCount : hl1.2.1 ax 11 = c0 := he_c0.trans f_m_claims
  obtain ⟨mw, f_mw, g_mw⟩ := hx_rf hT gm tt_10 (k := 19) (u := 57) rfl
  obtain ⟨F_mw, n_mw⟩ : ∃ g : Nat → Int32, hl1.2.1 mw = g := ⟨_, rfl⟩
  obtain ⟨mr, f_mr, g_mr⟩ := hx_rf hT gm tt_10 (k := 3) (u := 50) rfl
  obtain ⟨F_mr, n_mr⟩ : ∃ g : Nat → Int32, hl1.2.1 mr = g := ⟨_, rfl⟩
  obtain ⟨mp, f_mp, g_mp⟩ := hx_rf hT gm tt_10 (k := 5) (u := 52) rfl
  obtain ⟨F_mp, n_mp⟩ : ∃ g : Nat → Int32, hl1.2.1 mp = g := ⟨_, rfl⟩
  obtain ⟨mn, f_mn, g_mn⟩ := hx_rf hT gm tt_10 (k := 4) (u := 51) rfl
  obtain ⟨F_mn, n_mn⟩ : ∃ g : Nat → Int32, hl1.2.1 mn = g := ⟨_, rfl⟩
  obtain ⟨ml, f_ml, g_ml⟩ := hx_rf hT gm tt_10 (k := 44) (u := 79) rfl
  obtain ⟨F_ml, n_ml⟩ : ∃ g : Nat → Int32, hl1.2.1 ml = g := ⟨_, rfl⟩
  obtain ⟨mh, f_mh, g_mh⟩ := hx_rf hT gm tt_10 (k := 47) (u := 82) rfl
  obtain ⟨F_mh, n_mh⟩ : ∃ g : Nat → Int32, hl1.2.1 mh = g := ⟨_, rfl⟩
  obtain ⟨mt, f_mt, g_mt⟩ := hx_rf hT gm tt_10 (k := 45) (u := 80) rfl
  obtain ⟨F_mt, n_mt⟩ : ∃ g : Nat → Int32, hl1.2.1 mt = g := ⟨_, rfl⟩
  obtain ⟨qo_ln, f_qo_ln, g_qo_ln⟩ := hx_rf hT gx tt_9 (k := 9) (u := 1) rfl
  have f_o_ln : hl1.2.1 qo_ln 0 = ln := (ho_ln qo_ln f_qo_ln).trans f_m_lines
  have nu_qp := hn_qp qp f_qp; rw [f_x_personCount] at nu_qp
  obtain ⟨c_dead, cl_dead⟩ : ∃ g : Nat → Int32, hx_col 40 hl1 qp 7 = g := ⟨_, rfl⟩
  obtain ⟨m_dead, f_m_dead, g_m_dead⟩ := hx_rf hT gm tt_10 (k := 27) (u := 64) rfl
  obtain ⟨F_dead, n_dead⟩ : ∃ g : Nat → Int32, hl1.2.1 m_dead = g := ⟨_, rfl⟩
  have eq_dead := hc_dead qp m_dead f_qp f_m_dead; rw [cl_dead, n_dead] at eq_dead
  have z_dead : np.toInt.toNat < 40 → c_dead np.toInt.toNat = 0 := fun hj => hx_num_z nu_qp cl_dead hj (by omega)
  obtain ⟨c_isj, cl_isj⟩ : ∃ g : Nat → Int32, hx_col 40 hl1 qp 8 = g := ⟨_, rfl⟩
  obtain ⟨m_isj, f_m_isj, g_m_isj⟩ := hx_rf hT gm tt_10 (k := 28) (u := 65) rfl
  obtain ⟨F_isj, n_isj⟩ : ∃ g : Nat → Int32, hl1.2.1 m_isj = g := ⟨_, rfl⟩
  have eq_isj := hc_isj qp m_isj f_qp f_m_isj; rw [cl_isj, n_isj] at eq_isj
  have z_isj : np.toInt.toNat < 40 → c_isj np.toInt.toNat = 0 := fun hj => hx_num_z nu_qp cl_isj hj (by omega)
  have hwd := jw mw f_mw; rw [n_mw] at hwd
  have hWK := jr mr f_mr; rw [n_mr, f_m_acts] at hWK
  have hRP := jp mp mn f_mp f_mn; rw [n_mp, n_mn, f_m_acts] at hRP
  have hPL := jl ml f_ml; rw [n_ml, f_m_claims, f_m_acts] at hPL
  have hHC := jh mh f_mh; rw [n_mh, f_m_heardMany, f_m_claims] at hHC
  have hTR := jt mt f_mt; rw [n_mt] at hTR
  refine lv_aload_n hx hb dL_law_1162 rfl (lv_at hl 2 rfl) ?_
  refine lv_aload_n hx hb dL_law_1163 rfl (lv_at hl 3 rfl) ?_
  refine lv_iload_n hx hb dL_law_1164 rfl (lv_at hl 0 rfl) ?_
  refine lv_iconst (v := 1) hx hb dL_law_1165 (by decide) ?_
  refine lv_iadd hx hb dL_law_1166 ?_
  have rg_550 := i32_r i
  refine lv_topi (fun x_551 ex_551 => ?_)
  have zx_551 : x_551.toInt = i.toInt + 1 := by rw [ex_551]; exact i32_add rfl (by decide) (by omega) (by omega)
  refine va_sld hx hb hX hbl hbA hW.2.2.2.1 (vp_in_iff.mpr ⟨by omega, by omega⟩) dL_law_1167 ?_
  refine lv_topi (fun x_552 ex_552 => ?_)
  refine lv_aload_n hx hb dL_law_1168 rfl (lv_at hl 3 rfl) ?_
  refine lv_iload_n hx hb dL_law_1169 rfl (lv_at hl 0 rfl) ?_
  refine lv_iconst (v := 2) hx hb dL_law_1170 (by decide) ?_
  refine lv_iadd hx hb dL_law_1171 ?_
  refine lv_topi (fun x_553 ex_553 => ?_)
  have zx_553 : x_553.toInt = i.toInt + 2 := by rw [ex_553]; exact i32_add rfl (by decide) (by omega) (by omega)
  refine va_sld hx hb hX hbl hbA hW.2.2.2.1 (vp_in_iff.mpr ⟨by omega, by omega⟩) dL_law_1172 ?_
  refine lv_topi (fun x_554 ex_554 => ?_)
  have hTo := hT
  refine hx_goi (hx_runV (As := [.int x_552, .int x_554]) (rest := []) ⟨hx, hb, hml, hown, hts⟩ hW gx tt_9 (T := TX9) (N := 20) rfl (t_X9_planned l dC dI dA L1 hl1 H.size ax x_552 x_554 hT gx) (cwV 2 hts (hx_gV kw_980 kw_977 kw_978 kw_979 kw_94) rfl rfl rfl (by decide +kernel) ⟨Nat.le_of_ble_eq_true rfl, Nat.le_of_ble_eq_true rfl⟩) rfl hl.1 rfl (Nat.le_of_ble_eq_true rfl) dL_law_1173 ⟨(show CC + 0 ≤ 600000 from by omega), (show SS + 0 ≤ 7302250 from by omega)⟩) hW (fun r_557 L_555 h_556 H locs p_558 hW => ?_)
  obtain ⟨hr_559, hT, hs⟩ := p_558
  have hT : hx_T T_tb L_555 h_556 := hT
  have hs : hx_S T_tb [] L1 hl1 L_555 h_556 := hs
  have f_qa := (hs.o gx trivial rfl).2.trans f_qa
  have f_qp := (hs.o gx trivial rfl).2.trans f_qp
  have f_qc := (hs.o gx trivial rfl).2.trans f_qc
  have f_qh := (hs.o gx trivial rfl).2.trans f_qh
  have f_qw := (hs.o gx trivial rfl).2.trans f_qw
  have f_ql := (hs.o g_qw trivial rfl).2.trans f_ql
  have f_m_now := (hs.o gm trivial rfl).1.trans f_m_now
  have f_m_persons := (hs.o gm trivial rfl).1.trans f_m_persons
  have f_m_claims := (hs.o gm trivial rfl).1.trans f_m_claims
  have f_m_lines := (hs.o gm trivial rfl).1.trans f_m_lines
  have f_m_acts := (hs.o gm trivial rfl).1.trans f_m_acts
  have f_m_heardMany := (hs.o gm trivial rfl).1.trans f_m_heardMany
  have f_x_now := (hs.o gx trivial rfl).1.trans f_x_now
  have f_x_personCount := (hs.o gx trivial rfl).1.trans f_x_personCount
  have f_x_claimCount := (hs.o gx trivial rfl).1.trans f_x_claimCount
  have f_mw := (hs.o gm trivial rfl).2.trans f_mw
  have f_mr := (hs.o gm trivial rfl).2.trans f_mr
  have f_mp := (hs.o gm trivial rfl).2.trans f_mp
  have f_mn := (hs.o gm trivial rfl).2.trans f_mn
  have f_ml := (hs.o gm trivial rfl).2.trans f_ml
  have f_mh := (hs.o gm trivial rfl).2.trans f_mh
  have f_mt := (hs.o gm trivial rfl).2.trans f_mt
  have f_qo_ln := (hs.o gx trivial rfl).2.trans f_qo_ln
  have f_o_ln := (hs.o g_qo_ln trivial rfl).1.trans f_o_ln
  have f_m_dead := (hs.o gm trivial rfl).2.trans f_m_dead
  have f_m_isj := (hs.o gm trivial rfl).2.trans f_m_isj
  have pf_qa : ∀ j : Nat, (j : Int) < (h_556.2.1 ax 6).toInt → h_556.2.2 qa j ≠ none := by
    intro j hj; rw [(hs.o gx trivial rfl).1] at hj; rw [(hs.a g_qa rfl j).2]; exact pf_qa j hj
  have pf_qp : ∀ j : Nat, (j : Int) < (h_556.2.1 ax 8).toInt → h_556.2.2 qp j ≠ none := by
    intro j hj; rw [(hs.o gx trivial rfl).1] at hj; rw [(hs.a g_qp rfl j).2]; exact pf_qp j hj
  have pf_qc : ∀ j : Nat, (j : Int) < (h_556.2.1 ax 11).toInt → h_556.2.2 qc j ≠ none := by
    intro j hj; rw [(hs.o gx trivial rfl).1] at hj; rw [(hs.a g_qc rfl j).2]; exact pf_qc j hj
  have pf_qh : ∀ j : Nat, (j : Int) < (h_556.2.1 ax 13).toInt → h_556.2.2 qh j ≠ none := by
    intro j hj; rw [(hs.o gx trivial rfl).1] at hj; rw [(hs.a g_qh rfl j).2]; exact pf_qh j hj
  have pf_ql : ∀ j : Nat, (j : Int) < (h_556.2.1 qw 0).toInt → h_556.2.2 ql j ≠ none := by
    intro j hj; rw [(hs.o g_qw trivial rfl).1] at hj; rw [(hs.a g_ql rfl j).2]; exact pf_ql j hj
  have cl_dead : hx_col 40 h_556 qp 7 = c_dead := (hx_col_S hs hTo g_qp tt_44 tt_4 rfl rfl).trans cl_dead
  have cl_isj : hx_col 40 h_556 qp 8 = c_isj := (hx_col_S hs hTo g_qp tt_44 tt_4 rfl rfl).trans cl_isj
  have nu_qp : hx_num 40 h_556 qp 0 (np.toInt) := hx_num_S hs hTo g_qp tt_44 tt_4 rfl rfl nu_qp
  have n_mw : h_556.2.1 mw = F_mw := (funext fun j => (hs.a g_mw rfl j).1).trans n_mw
  have n_mr : h_556.2.1 mr = F_mr := (funext fun j => (hs.a g_mr rfl j).1).trans n_mr
  have n_mp : h_556.2.1 mp = F_mp := (funext fun j => (hs.a g_mp rfl j).1).trans n_mp
  have n_mn : h_556.2.1 mn = F_mn := (funext fun j => (hs.a g_mn rfl j).1).trans n_mn
  have n_ml : h_556.2.1 ml = F_ml := (funext fun j => (hs.a g_ml rfl j).1).trans n_ml
  have n_mh : h_556.2.1 mh = F_mh := (funext fun j => (hs.a g_mh rfl j).1).trans n_mh
  have n_mt : h_556.2.1 mt = F_mt := (funext fun j => (hs.a g_mt rfl j).1).trans n_mt
  have n_dead : h_556.2.1 m_dead = F_dead := (funext fun j => (hs.a g_m_dead rfl j).1).trans n_dead
  have n_isj : h_556.2.1 m_isj = F_isj := (funext fun j => (hs.a g_m_isj rfl j).1).trans n_isj
  have gx := gx.S hs
  have gm := gm.S hs
  have g_qa := g_qa.S hs
  have g_qp := g_qp.S hs
  have g_qc := g_qc.S hs
  have g_qh := g_qh.S hs
  have g_qw := g_qw.S hs
  have g_ql := g_ql.S hs
  have g_mw := g_mw.S hs
  have g_mr := g_mr.S hs
  have g_mp := g_mp.S hs
  have g_mn := g_mn.S hs
  have g_ml := g_ml.S hs
  have g_mh := g_mh.S hs
  have g_mt := g_mt.S hs
  have g_qo_ln := g_qo_ln.S hs
  have g_m_dead := g_m_dead.S hs
  have g_m_isj := g_m_isj.S hs
  refine lv_pop hx hb dL_law_1176 rfl ?_
  refine lv_aload_n hx hb dL_law_1177 rfl (lv_at hl 1 rfl) ?_
  refine lv_aload_n hx hb dL_law_1178 rfl (lv_at hl 3 rfl) ?_
  refine lv_iload_n hx hb dL_law_1179 rfl (lv_at hl 0 rfl) ?_
  refine lv_iconst (v := 1) hx hb dL_law_1180 (by decide) ?_
  refine lv_iadd hx hb dL_law_1181 ?_
  refine lv_topi (fun x_560 ex_560 => ?_)
  have zx_560 : x_560.toInt = i.toInt + 1 := by rw [ex_560]; exact i32_add rfl (by decide) (by omega) (by omega)
  obtain rfl : x_551 = x_560 := ex_551.trans ex_560.symm
  refine va_sld hx hb hX hbl hbA hW.2.2.2.1 (vp_in_iff.mpr ⟨by omega, by omega⟩) dL_law_1182 ?_
  refine lv_topi (fun x_561 ex_561 => ?_)
  obtain rfl : x_552 = x_561 := ex_552.trans ex_561.symm
  refine lv_aload_n hx hb dL_law_1183 rfl (lv_at hl 3 rfl) ?_
  refine lv_iload_n hx hb dL_law_1184 rfl (lv_at hl 0 rfl) ?_
  refine lv_iconst (v := 2) hx hb dL_law_1185 (by decide) ?_
  refine lv_iadd hx hb dL_law_1186 ?_
  refine lv_topi (fun x_562 ex_562 => ?_)
  have zx_562 : x_562.toInt = i.toInt + 2 := by rw [ex_562]; exact i32_add rfl (by decide) (by omega) (by omega)
  obtain rfl : x_553 = x_562 := ex_553.trans ex_562.symm
  refine va_sld hx hb hX hbl hbA hW.2.2.2.1 (vp_in_iff.mpr ⟨by omega, by omega⟩) dL_law_1187 ?_
  refine lv_topi (fun x_563 ex_563 => ?_)
  obtain rfl : x_554 = x_563 := ex_554.trans ex_563.symm
  have hTo := hT
  refine hx_goi (hx_runV (As := [.int x_552, .int x_554]) (rest := []) ⟨hx, hb, hml, hown, hts⟩ hW gm tt_10 (T := TX10) (N := 98) rfl (t_X10_planned l dC dI dA L_555 h_556 H.size am x_552 x_554 hT gm) (cwV 2 hts (hx_gV kw_1686 kw_1683 kw_1684 kw_1685 kw_103) rfl rfl rfl (by decide +kernel) ⟨Nat.le_of_ble_eq_true rfl, Nat.le_of_ble_eq_true rfl⟩) rfl hl.1 rfl (Nat.le_of_ble_eq_true rfl) dL_law_1188 ⟨(show CC + 0 + 0 ≤ 600000 from by omega), (show SS + 0 + 0 ≤ 7302250 from by omega)⟩) hW (fun r_566 L_564 h_565 H locs p_567 hW => ?_)
  obtain ⟨hr_568, hT, hs⟩ := p_567
  have hT : hx_T T_tb L_564 h_565 := hT
  have hs : hx_S T_tb [] L_555 h_556 L_564 h_565 := hs
  have f_qa := (hs.o gx trivial rfl).2.trans f_qa
  have f_qp := (hs.o gx trivial rfl).2.trans f_qp
  have f_qc := (hs.o gx trivial rfl).2.trans f_qc
  have f_qh := (hs.o gx trivial rfl).2.trans f_qh
  have f_qw := (hs.o gx trivial rfl).2.trans f_qw
  have f_ql := (hs.o g_qw trivial rfl).2.trans f_ql
  have f_m_now := (hs.o gm trivial rfl).1.trans f_m_now
  have f_m_persons := (hs.o gm trivial rfl).1.trans f_m_persons
  have f_m_claims := (hs.o gm trivial rfl).1.trans f_m_claims
  have f_m_lines := (hs.o gm trivial rfl).1.trans f_m_lines
  have f_m_acts := (hs.o gm trivial rfl).1.trans f_m_acts
  have f_m_heardMany := (hs.o gm trivial rfl).1.trans f_m_heardMany
  have f_x_now := (hs.o gx trivial rfl).1.trans f_x_now
  have f_x_personCount := (hs.o gx trivial rfl).1.trans f_x_personCount
  have f_x_claimCount := (hs.o gx trivial rfl).1.trans f_x_claimCount
  have f_mw := (hs.o gm trivial rfl).2.trans f_mw
  have f_mr := (hs.o gm trivial rfl).2.trans f_mr
  have f_mp := (hs.o gm trivial rfl).2.trans f_mp
  have f_mn := (hs.o gm trivial rfl).2.trans f_mn
  have f_ml := (hs.o gm trivial rfl).2.trans f_ml
  have f_mh := (hs.o gm trivial rfl).2.trans f_mh
  have f_mt := (hs.o gm trivial rfl).2.trans f_mt
  have f_qo_ln := (hs.o gx trivial rfl).2.trans f_qo_ln
  have f_o_ln := (hs.o g_qo_ln trivial rfl).1.trans f_o_ln
  have f_m_dead := (hs.o gm trivial rfl).2.trans f_m_dead
  have f_m_isj := (hs.o gm trivial rfl).2.trans f_m_isj
  have pf_qa : ∀ j : Nat, (j : Int) < (h_565.2.1 ax 6).toInt → h_565.2.2 qa j ≠ none := by
    intro j hj; rw [(hs.o gx trivial rfl).1] at hj; rw [(hs.a g_qa rfl j).2]; exact pf_qa j hj
  have pf_qp : ∀ j : Nat, (j : Int) < (h_565.2.1 ax 8).toInt → h_565.2.2 qp j ≠ none := by
    intro j hj; rw [(hs.o gx trivial rfl).1] at hj; rw [(hs.a g_qp rfl j).2]; exact pf_qp j hj
  have pf_qc : ∀ j : Nat, (j : Int) < (h_565.2.1 ax 11).toInt → h_565.2.2 qc j ≠ none := by
    intro j hj; rw [(hs.o gx trivial rfl).1] at hj; rw [(hs.a g_qc rfl j).2]; exact pf_qc j hj
  have pf_qh : ∀ j : Nat, (j : Int) < (h_565.2.1 ax 13).toInt → h_565.2.2 qh j ≠ none := by
    intro j hj; rw [(hs.o gx trivial rfl).1] at hj; rw [(hs.a g_qh rfl j).2]; exact pf_qh j hj
  have pf_ql : ∀ j : Nat, (j : Int) < (h_565.2.1 qw 0).toInt → h_565.2.2 ql j ≠ none := by
    intro j hj; rw [(hs.o g_qw trivial rfl).1] at hj; rw [(hs.a g_ql rfl j).2]; exact pf_ql j hj
  have cl_dead : hx_col 40 h_565 qp 7 = c_dead := (hx_col_S hs hTo g_qp tt_44 tt_4 rfl rfl).trans cl_dead
  have cl_isj : hx_col 40 h_565 qp 8 = c_isj := (hx_col_S hs hTo g_qp tt_44 tt_4 rfl rfl).trans cl_isj
  have nu_qp : hx_num 40 h_565 qp 0 (np.toInt) := hx_num_S hs hTo g_qp tt_44 tt_4 rfl rfl nu_qp
  have n_mw : h_565.2.1 mw = F_mw := (funext fun j => (hs.a g_mw rfl j).1).trans n_mw
  have n_mr : h_565.2.1 mr = F_mr := (funext fun j => (hs.a g_mr rfl j).1).trans n_mr
  have n_mp : h_565.2.1 mp = F_mp := (funext fun j => (hs.a g_mp rfl j).1).trans n_mp
  have n_mn : h_565.2.1 mn = F_mn := (funext fun j => (hs.a g_mn rfl j).1).trans n_mn
  have n_ml : h_565.2.1 ml = F_ml := (funext fun j => (hs.a g_ml rfl j).1).trans n_ml
  have n_mh : h_565.2.1 mh = F_mh := (funext fun j => (hs.a g_mh rfl j).1).trans n_mh
  have n_mt : h_565.2.1 mt = F_mt := (funext fun j => (hs.a g_mt rfl j).1).trans n_mt
  have n_dead : h_565.2.1 m_dead = F_dead := (funext fun j => (hs.a g_m_dead rfl j).1).trans n_dead
  have n_isj : h_565.2.1 m_isj = F_isj := (funext fun j => (hs.a g_m_isj rfl j).1).trans n_isj
  have gx := gx.S hs
  have gm := gm.S hs
  have g_qa := g_qa.S hs
  have g_qp := g_qp.S hs
  have g_qc := g_qc.S hs
  have g_qh := g_qh.S hs
  have g_qw := g_qw.S hs
  have g_ql := g_ql.S hs
  have g_mw := g_mw.S hs
  have g_mr := g_mr.S hs
  have g_mp := g_mp.S hs
  have g_mn := g_mn.S hs
  have g_ml := g_ml.S hs
  have g_mh := g_mh.S hs
  have g_mt := g_mt.S hs
  have g_qo_ln := g_qo_ln.S hs
  have g_m_dead := g_m_dead.S hs
  have g_m_isj := g_m_isj.S hs
  refine lv_pop hx hb dL_law_1191 rfl ?_
  refine lv_goto (tgt := 1379) hx hb dL_law_1192 (by decide) ?_
  refine W.widen (k := CC + 3) (n := SS + 179) (by omega) (by omega) ?_
  exact kk L_564 h_565 H locs ls hW ⟨hT, gx, gm, ⟨f_x_now.trans f_m_now.symm, f_x_personCount.trans f_m_persons.symm, f_x_claimCount.trans f_m_claims.symm, hx_ob f_qo_ln (f_o_ln.trans f_m_lines.symm), hx_ob f_qp (by rw [f_x_personCount]; exact nu_qp), hx_ob2 f_qp f_m_dead (by rw [cl_dead, n_dead]; exact eq_dead), hx_ob2 f_qp f_m_isj (by rw [cl_isj, n_isj]; exact eq_isj), trivial⟩, ⟨hx_ob f_qa pf_qa, hx_ob f_qp pf_qp, hx_ob f_qc pf_qc, hx_ob f_qh pf_qh, (fun w q hw hq => by obtain rfl : qw = w := Option.some.inj (f_qw.symm.trans hw); obtain rfl : ql = q := Option.some.inj (f_ql.symm.trans hq); exact pf_ql)⟩, ⟨hx_ob f_mw (by rw [n_mw]; exact hwd), hx_ob f_mr (by rw [n_mr, f_m_acts]; exact hWK), hx_ob2 f_mp f_mn (by rw [n_mp, n_mn, f_m_acts]; exact hRP), hx_ob f_ml (by rw [n_ml, f_m_claims, f_m_acts]; exact hPL), hx_ob f_mh (by rw [n_mh, f_m_heardMany, f_m_claims]; exact hHC), hx_ob f_mt (by rw [n_mt]; exact (hx_TR_le hTR (by omega)))⟩⟩ hl

set_option maxHeartbeats 4000000 in
set_option maxRecDepth 100000 in
theorem law_case_23 {p : Program} {e : Env} {s : State} {m : MethodId} {below : List Frame} {meth : Method} {c : Code} (l : Launch) {b LN : Nat} {xs : Nat → Int32} (hx : p.tables.exec = Jvm.exec) (hb : c.code = code) (hr : meth.sig.returnType = ret) (hlocks : meth.locks = false) (hml : c.maxLocals = 4) (hown : s.vm.findClass "SmallCourtLaw" = some m.cls) (hts : ∀ w ∈ hx_all, w.before #[Value.ref b] s = true) (hX : va_X b LN xs s s.heap) (hbl : b < s.heap.size) (hbA : ¬ s.heap.size ≤ b) (hLN : LN ≤ 3584) (dC : Nat → ClassId) (dI : Nat → Nat → Nat) (dA : Nat → ClassId) (b0 : hx_z) (ax am : Nat) (T1 : Int) (hT0 : 0 ≤ T1) (hT1 : T1 ≤ 511) (i : Int32) (hi0 : 0 ≤ i.toInt) (hiL : i.toInt + 7 ≤ LN) (CC SS : Nat) (hCC : CC + 3 ≤ 600000) (hSS : SS + 179 ≤ 7302250) (L1 : List Nat) (hl1 : hx_h) (H : Heap) (locs : List Loc) (ls : Array Slot) (hW : hx_W T_tb (P_ty dA) (dC, dI) vwCl (fun q : Nat => s.heap.size ≤ q) s.heap L1 hl1 s H locs) (hZ : hx_Xt (fun q : Nat => s.heap.size ≤ q) b0 s) (hI : hx_IV T1 ax am L1 hl1) (hl : lv_has ls 4 [(3, .int i), (2, .ref am), (1, .ref ax), (0, .ref b)]) (kk : ∀ (L2 : List Nat) (h2 : hx_h) (H2 : Heap) (locs2 : List Loc) (ls2 : Array Slot), hx_W T_tb (P_ty dA) (dC, dI) vwCl (fun q : Nat => s.heap.size ≤ q) s.heap L2 h2 s H2 locs2 → hx_IV (T1 + 1) ax am L2 h2 → lv_has ls2 4 [(3, .int i), (2, .ref am), (1, .ref ax), (0, .ref b)] → W p l e room_1 s m #[Value.ref b] below meth c H2 locs2 (CC + 3) (SS + 179) (lw_Z below #[Value.ref b] s) (F0 m 1379 ls2 [])) : W p l e room_1 s m #[Value.ref b] below meth c H locs CC SS (lw_Z below #[Value.ref b] s) (F0 m 1195 ls []) := by
  obtain ⟨hT, gx, gm, ⟨he_nw, he_np, he_c0, ho_ln, hn_qp, hc_dead, hc_isj, -⟩, ⟨ia, ip, ic, ih, il⟩, ⟨jw, jr, jp, jl, jh, jt⟩⟩ := hI
  obtain ⟨qa, f_qa, g_qa⟩ := hx_rf hT gx tt_9 (k := 5) (u := 43) rfl
  have pf_qa := ia qa f_qa
  obtain ⟨qp, f_qp, g_qp⟩ := hx_rf hT gx tt_9 (k := 7) (u := 44) rfl
  have pf_qp := ip qp f_qp
  obtain ⟨qc, f_qc, g_qc⟩ := hx_rf hT gx tt_9 (k := 10) (u := 45) rfl
  have pf_qc := ic qc f_qc
  obtain ⟨qh, f_qh, g_qh⟩ := hx_rf hT gx tt_9 (k := 12) (u := 46) rfl
  have pf_qh := ih qh f_qh
  obtain ⟨qw, f_qw, g_qw⟩ := hx_rf hT gx tt_9 (k := 19) (u := 8) rfl
  obtain ⟨ql, f_ql, g_ql⟩ := hx_rf hT g_qw tt_8 (k := 3) (u := 40) rfl
  have pf_ql := il qw ql f_qw f_ql
  obtain ⟨nw, f_m_now⟩ : ∃ y : Int32, hl1.2.1 am 0 = y := ⟨_, rfl⟩
  have b_nw := hT.gi gm tt_10 (k := 0) rfl
  rw [f_m_now] at b_nw
  have b_nw : 0 ≤ nw.toInt ∧ nw.toInt ≤ 7999 := b_nw
  obtain ⟨np, f_m_persons⟩ : ∃ y : Int32, hl1.2.1 am 20 = y := ⟨_, rfl⟩
  have b_np := hT.gi gm tt_10 (k := 20) rfl
  rw [f_m_persons] at b_np
  have b_np : 0 ≤ np.toInt ∧ np.toInt ≤ 40 := b_np
  obtain ⟨c0, f_m_claims⟩ : ∃ y : Int32, hl1.2.1 am 36 = y := ⟨_, rfl⟩
  have b_c0 := hT.gi gm tt_10 (k := 36) rfl
  rw [f_m_claims] at b_c0
  have b_c0 : 0 ≤ c0.toInt ∧ c0.toInt ≤ 100 := b_c0
  obtain ⟨ln, f_m_lines⟩ : ∃ y : Int32, hl1.2.1 am 29 = y := ⟨_, rfl⟩
  have b_ln := hT.gi gm tt_10 (k := 29) rfl
  rw [f_m_lines] at b_ln
  have b_ln : 0 ≤ ln.toInt ∧ ln.toInt ≤ 400 := b_ln
  obtain ⟨a0, f_m_acts⟩ : ∃ y : Int32, hl1.2.1 am 1 = y := ⟨_, rfl⟩
  have b_a0 := hT.gi gm tt_10 (k := 1) rfl
  rw [f_m_acts] at b_a0
  have b_a0 : 0 ≤ a0.toInt ∧ a0.toInt ≤ 8 := b_a0
  obtain ⟨m0, f_m_heardMany⟩ : ∃ y : Int32, hl1.2.1 am 57 = y := ⟨_, rfl⟩
  have b_m0 := hT.gi gm tt_10 (k := 57) rfl
  rw [f_m_heardMany] at b_m0
  have b_m0 : 0 ≤ m0.toInt ∧ m0.toInt ≤ 100 := b_m0
  have f_x_now : hl1.2.1 ax 2 = nw := he_nw.trans f_m_now
  have f_x_personCount : hl1.2.1 ax 8 = np := he_np.trans f_m_persons
  have f_x_claimCount : hl1.2.1 ax 11 = c0 := he_c0.trans f_m_claims
  obtain ⟨mw, f_mw, g_mw⟩ := hx_rf hT gm tt_10 (k := 19) (u := 57) rfl
  obtain ⟨F_mw, n_mw⟩ : ∃ g : Nat → Int32, hl1.2.1 mw = g := ⟨_, rfl⟩
  obtain ⟨mr, f_mr, g_mr⟩ := hx_rf hT gm tt_10 (k := 3) (u := 50) rfl
  obtain ⟨F_mr, n_mr⟩ : ∃ g : Nat → Int32, hl1.2.1 mr = g := ⟨_, rfl⟩
  obtain ⟨mp, f_mp, g_mp⟩ := hx_rf hT gm tt_10 (k := 5) (u := 52) rfl
  obtain ⟨F_mp, n_mp⟩ : ∃ g : Nat → Int32, hl1.2.1 mp = g := ⟨_, rfl⟩
  obtain ⟨mn, f_mn, g_mn⟩ := hx_rf hT gm tt_10 (k := 4) (u := 51) rfl
  obtain ⟨F_mn, n_mn⟩ : ∃ g : Nat → Int32, hl1.2.1 mn = g := ⟨_, rfl⟩
  obtain ⟨ml, f_ml, g_ml⟩ := hx_rf hT gm tt_10 (k := 44) (u := 79) rfl
  obtain ⟨F_ml, n_ml⟩ : ∃ g : Nat → Int32, hl1.2.1 ml = g := ⟨_, rfl⟩
  obtain ⟨mh, f_mh, g_mh⟩ := hx_rf hT gm tt_10 (k := 47) (u := 82) rfl
  obtain ⟨F_mh, n_mh⟩ : ∃ g : Nat → Int32, hl1.2.1 mh = g := ⟨_, rfl⟩
  obtain ⟨mt, f_mt, g_mt⟩ := hx_rf hT gm tt_10 (k := 45) (u := 80) rfl
  obtain ⟨F_mt, n_mt⟩ : ∃ g : Nat → Int32, hl1.2.1 mt = g := ⟨_, rfl⟩
  obtain ⟨qo_ln, f_qo_ln, g_qo_ln⟩ := hx_rf hT gx tt_9 (k := 9) (u := 1) rfl
  have f_o_ln : hl1.2.1 qo_ln 0 = ln := (ho_ln qo_ln f_qo_ln).trans f_m_lines
  have nu_qp := hn_qp qp f_qp; rw [f_x_personCount] at nu_qp
  obtain ⟨c_dead, cl_dead⟩ : ∃ g : Nat → Int32, hx_col 40 hl1 qp 7 = g := ⟨_, rfl⟩
  obtain ⟨m_dead, f_m_dead, g_m_dead⟩ := hx_rf hT gm tt_10 (k := 27) (u := 64) rfl
  obtain ⟨F_dead, n_dead⟩ : ∃ g : Nat → Int32, hl1.2.1 m_dead = g := ⟨_, rfl⟩
  have eq_dead := hc_dead qp m_dead f_qp f_m_dead; rw [cl_dead, n_dead] at eq_dead
  have z_dead : np.toInt.toNat < 40 → c_dead np.toInt.toNat = 0 := fun hj => hx_num_z nu_qp cl_dead hj (by omega)
  obtain ⟨c_isj, cl_isj⟩ : ∃ g : Nat → Int32, hx_col 40 hl1 qp 8 = g := ⟨_, rfl⟩
  obtain ⟨m_isj, f_m_isj, g_m_isj⟩ := hx_rf hT gm tt_10 (k := 28) (u := 65) rfl
  obtain ⟨F_isj, n_isj⟩ : ∃ g : Nat → Int32, hl1.2.1 m_isj = g := ⟨_, rfl⟩
  have eq_isj := hc_isj qp m_isj f_qp f_m_isj; rw [cl_isj, n_isj] at eq_isj
  have z_isj : np.toInt.toNat < 40 → c_isj np.toInt.toNat = 0 := fun hj => hx_num_z nu_qp cl_isj hj (by omega)
  have hwd := jw mw f_mw; rw [n_mw] at hwd
  have hWK := jr mr f_mr; rw [n_mr, f_m_acts] at hWK
  have hRP := jp mp mn f_mp f_mn; rw [n_mp, n_mn, f_m_acts] at hRP
  have hPL := jl ml f_ml; rw [n_ml, f_m_claims, f_m_acts] at hPL
  have hHC := jh mh f_mh; rw [n_mh, f_m_heardMany, f_m_claims] at hHC
  have hTR := jt mt f_mt; rw [n_mt] at hTR
  refine lv_aload_n hx hb dL_law_1195 rfl (lv_at hl 2 rfl) ?_
  have hTo := hT
  refine hx_goi (hx_runV (As := []) (rest := []) ⟨hx, hb, hml, hown, hts⟩ hW gx tt_9 (T := TX9) (N := 20) rfl (t_X9_net l dC dI dA L1 hl1 H.size ax hT gx qc g_qc f_qc pf_qc) (cwV 0 hts (hx_gV kw_984 kw_981 kw_982 kw_983 kw_94) rfl rfl rfl (by decide +kernel) ⟨Nat.le_of_ble_eq_true rfl, Nat.le_of_ble_eq_true rfl⟩) rfl hl.1 rfl (Nat.le_of_ble_eq_true rfl) dL_law_1196 ⟨(show CC + 0 ≤ 600000 from by omega), (show SS + 0 ≤ 7302250 from by omega)⟩) hW (fun r_571 L_569 h_570 H locs p_572 hW => ?_)
  obtain ⟨hr_573, hT, hs⟩ := p_572
  have hT : hx_T T_tb L_569 h_570 := hT
  have hs : hx_S T_tb [(3, 0), (7, 0), (7, 1), (7, 2), (7, 4), (22, 0), (23, 0), (24, 0), (25, 0), (26, 0), (35, 0), (36, 0), (37, 0), (38, 0), (48, 0)] L1 hl1 L_569 h_570 := hs
  have f_qa := (hs.o gx trivial rfl).2.trans f_qa
  have f_qp := (hs.o gx trivial rfl).2.trans f_qp
  have f_qc := (hs.o gx trivial rfl).2.trans f_qc
  have f_qh := (hs.o gx trivial rfl).2.trans f_qh
  have f_qw := (hs.o gx trivial rfl).2.trans f_qw
  have f_ql := (hs.o g_qw trivial rfl).2.trans f_ql
  have f_m_now := (hs.o gm trivial rfl).1.trans f_m_now
  have f_m_persons := (hs.o gm trivial rfl).1.trans f_m_persons
  have f_m_claims := (hs.o gm trivial rfl).1.trans f_m_claims
  have f_m_lines := (hs.o gm trivial rfl).1.trans f_m_lines
  have f_m_acts := (hs.o gm trivial rfl).1.trans f_m_acts
  have f_m_heardMany := (hs.o gm trivial rfl).1.trans f_m_heardMany
  have f_x_now := (hs.o gx trivial rfl).1.trans f_x_now
  have f_x_personCount := (hs.o gx trivial rfl).1.trans f_x_personCount
  have f_x_claimCount := (hs.o gx trivial rfl).1.trans f_x_claimCount
  have f_mw := (hs.o gm trivial rfl).2.trans f_mw
  have f_mr := (hs.o gm trivial rfl).2.trans f_mr
  have f_mp := (hs.o gm trivial rfl).2.trans f_mp
  have f_mn := (hs.o gm trivial rfl).2.trans f_mn
  have f_ml := (hs.o gm trivial rfl).2.trans f_ml
  have f_mh := (hs.o gm trivial rfl).2.trans f_mh
  have f_mt := (hs.o gm trivial rfl).2.trans f_mt
  have f_qo_ln := (hs.o gx trivial rfl).2.trans f_qo_ln
  have f_o_ln := (hs.o g_qo_ln trivial rfl).1.trans f_o_ln
  have f_m_dead := (hs.o gm trivial rfl).2.trans f_m_dead
  have f_m_isj := (hs.o gm trivial rfl).2.trans f_m_isj
  have pf_qa : ∀ j : Nat, (j : Int) < (h_570.2.1 ax 6).toInt → h_570.2.2 qa j ≠ none := by
    intro j hj; rw [(hs.o gx trivial rfl).1] at hj; rw [(hs.a g_qa rfl j).2]; exact pf_qa j hj
  have pf_qp : ∀ j : Nat, (j : Int) < (h_570.2.1 ax 8).toInt → h_570.2.2 qp j ≠ none := by
    intro j hj; rw [(hs.o gx trivial rfl).1] at hj; rw [(hs.a g_qp rfl j).2]; exact pf_qp j hj
  have pf_qc : ∀ j : Nat, (j : Int) < (h_570.2.1 ax 11).toInt → h_570.2.2 qc j ≠ none := by
    intro j hj; rw [(hs.o gx trivial rfl).1] at hj; rw [(hs.a g_qc rfl j).2]; exact pf_qc j hj
  have pf_qh : ∀ j : Nat, (j : Int) < (h_570.2.1 ax 13).toInt → h_570.2.2 qh j ≠ none := by
    intro j hj; rw [(hs.o gx trivial rfl).1] at hj; rw [(hs.a g_qh rfl j).2]; exact pf_qh j hj
  have pf_ql : ∀ j : Nat, (j : Int) < (h_570.2.1 qw 0).toInt → h_570.2.2 ql j ≠ none := by
    intro j hj; rw [(hs.o g_qw trivial rfl).1] at hj; rw [(hs.a g_ql rfl j).2]; exact pf_ql j hj
  have cl_dead : hx_col 40 h_570 qp 7 = c_dead := (hx_col_S hs hTo g_qp tt_44 tt_4 rfl rfl).trans cl_dead
  have cl_isj : hx_col 40 h_570 qp 8 = c_isj := (hx_col_S hs hTo g_qp tt_44 tt_4 rfl rfl).trans cl_isj
  have nu_qp : hx_num 40 h_570 qp 0 (np.toInt) := hx_num_S hs hTo g_qp tt_44 tt_4 rfl rfl nu_qp
  have n_mw : h_570.2.1 mw = F_mw := (funext fun j => (hs.a g_mw rfl j).1).trans n_mw
  have n_mr : h_570.2.1 mr = F_mr := (funext fun j => (hs.a g_mr rfl j).1).trans n_mr
  have n_mp : h_570.2.1 mp = F_mp := (funext fun j => (hs.a g_mp rfl j).1).trans n_mp
  have n_mn : h_570.2.1 mn = F_mn := (funext fun j => (hs.a g_mn rfl j).1).trans n_mn
  have n_ml : h_570.2.1 ml = F_ml := (funext fun j => (hs.a g_ml rfl j).1).trans n_ml
  have n_mh : h_570.2.1 mh = F_mh := (funext fun j => (hs.a g_mh rfl j).1).trans n_mh
  have n_mt : h_570.2.1 mt = F_mt := (funext fun j => (hs.a g_mt rfl j).1).trans n_mt
  have n_dead : h_570.2.1 m_dead = F_dead := (funext fun j => (hs.a g_m_dead rfl j).1).trans n_dead
  have n_isj : h_570.2.1 m_isj = F_isj := (funext fun j => (hs.a g_m_isj rfl j).1).trans n_isj
  have gx := gx.S hs
  have gm := gm.S hs
  have g_qa := g_qa.S hs
  have g_qp := g_qp.S hs
  have g_qc := g_qc.S hs
  have g_qh := g_qh.S hs
  have g_qw := g_qw.S hs
  have g_ql := g_ql.S hs
  have g_mw := g_mw.S hs
  have g_mr := g_mr.S hs
  have g_mp := g_mp.S hs
  have g_mn := g_mn.S hs
  have g_ml := g_ml.S hs
  have g_mh := g_mh.S hs
  have g_mt := g_mt.S hs
  have g_qo_ln := g_qo_ln.S hs
  have g_m_dead := g_m_dead.S hs
  have g_m_isj := g_m_isj.S hs
  refine lv_pop hx hb dL_law_1199 rfl ?_
  refine lv_aload_n hx hb dL_law_1200 rfl (lv_at hl 1 rfl) ?_
  have hTo := hT
  obtain ⟨q_574, fq_574, gq_574⟩ := hx_rf hT gm tt_10 (k := 48) (u := 83) rfl
  obtain ⟨q_575, fq_575, gq_575⟩ := hx_rf hT gm tt_10 (k := 50) (u := 85) rfl
  obtain ⟨q_576, fq_576, gq_576⟩ := hx_rf hT gm tt_10 (k := 49) (u := 84) rfl
  obtain ⟨q_577, fq_577, gq_577⟩ := hx_rf hT gm tt_10 (k := 56) (u := 91) rfl
  obtain ⟨q_578, fq_578, gq_578⟩ := hx_rf hT gm tt_10 (k := 55) (u := 90) rfl
  obtain ⟨q_579, fq_579, gq_579⟩ := hx_rf hT gm tt_10 (k := 60) (u := 93) rfl
  obtain ⟨q_580, fq_580, gq_580⟩ := hx_rf hT gm tt_10 (k := 61) (u := 94) rfl
  obtain ⟨q_581, fq_581, gq_581⟩ := hx_rf hT gm tt_10 (k := 62) (u := 95) rfl
  obtain ⟨q_582, fq_582, gq_582⟩ := hx_rf hT gm tt_10 (k := 63) (u := 96) rfl
  obtain ⟨q_583, fq_583, gq_583⟩ := hx_rf hT gm tt_10 (k := 64) (u := 97) rfl
  obtain ⟨q_584, fq_584, gq_584⟩ := hx_rf hT gm tt_10 (k := 38) (u := 73) rfl
  obtain ⟨q_585, fq_585, gq_585⟩ := hx_rf hT gm tt_10 (k := 37) (u := 72) rfl
  obtain ⟨q_586, fq_586, gq_586⟩ := hx_rf hT gm tt_10 (k := 82) (u := 108) rfl
  obtain ⟨q_587, fq_587, gq_587⟩ := hx_rf hT gm tt_10 (k := 89) (u := 111) rfl
  obtain ⟨q_588, fq_588, gq_588⟩ := hx_rf hT gm tt_10 (k := 88) (u := 110) rfl
  obtain ⟨fa_589, nfa_589⟩ : ∃ g : Nat → Int32, h_570.2.1 q_574 = g := ⟨_, rfl⟩
  obtain ⟨fa_590, nfa_590⟩ : ∃ g : Nat → Int32, h_570.2.1 q_575 = g := ⟨_, rfl⟩
  obtain ⟨fa_591, nfa_591⟩ : ∃ g : Nat → Int32, h_570.2.1 q_576 = g := ⟨_, rfl⟩
  obtain ⟨fa_592, nfa_592⟩ : ∃ g : Nat → Int32, h_570.2.1 q_577 = g := ⟨_, rfl⟩
  obtain ⟨fa_593, nfa_593⟩ : ∃ g : Nat → Int32, h_570.2.1 q_578 = g := ⟨_, rfl⟩
  obtain ⟨fa_594, nfa_594⟩ : ∃ g : Nat → Int32, h_570.2.1 q_579 = g := ⟨_, rfl⟩
  obtain ⟨fa_595, nfa_595⟩ : ∃ g : Nat → Int32, h_570.2.1 q_580 = g := ⟨_, rfl⟩
  obtain ⟨fa_596, nfa_596⟩ : ∃ g : Nat → Int32, h_570.2.1 q_581 = g := ⟨_, rfl⟩
  obtain ⟨fa_597, nfa_597⟩ : ∃ g : Nat → Int32, h_570.2.1 q_582 = g := ⟨_, rfl⟩
  obtain ⟨fa_598, nfa_598⟩ : ∃ g : Nat → Int32, h_570.2.1 q_583 = g := ⟨_, rfl⟩
  obtain ⟨fa_599, nfa_599⟩ : ∃ g : Nat → Int32, h_570.2.1 q_584 = g := ⟨_, rfl⟩
  obtain ⟨fa_600, nfa_600⟩ : ∃ g : Nat → Int32, h_570.2.1 q_585 = g := ⟨_, rfl⟩
  refine hx_goi (hx_runV (As := []) (rest := []) ⟨hx, hb, hml, hown, hts⟩ hW gm tt_10 (T := TX10) (N := 98) rfl (t_X10_net_2 l dC dI dA L_569 h_570 H.size am hT gm q_574 gq_574 fq_574 q_575 gq_575 fq_575 q_576 gq_576 fq_576 q_577 gq_577 fq_577 q_578 gq_578 fq_578 ml g_ml f_ml mr g_mr f_mr q_579 gq_579 fq_579 q_580 gq_580 fq_580 q_581 gq_581 fq_581 q_582 gq_582 fq_582 q_583 gq_583 fq_583 q_584 gq_584 fq_584 q_585 gq_585 fq_585 q_586 gq_586 fq_586 q_587 gq_587 fq_587 q_588 gq_588 fq_588 fa_589 nfa_589 fa_590 nfa_590 fa_591 nfa_591 fa_592 nfa_592 fa_593 nfa_593 F_ml n_ml F_mr n_mr fa_594 nfa_594 fa_595 nfa_595 fa_596 nfa_596 fa_597 nfa_597 fa_598 nfa_598 fa_599 nfa_599 fa_600 nfa_600 nw f_m_now c0 f_m_claims) (cwV 0 hts (hx_gV kw_1690 kw_1687 kw_1688 kw_1689 kw_103) rfl rfl rfl (by decide +kernel) ⟨Nat.le_of_ble_eq_true rfl, Nat.le_of_ble_eq_true rfl⟩) rfl hl.1 rfl (Nat.le_of_ble_eq_true rfl) dL_law_1201 ⟨(show CC + 0 + 0 ≤ 600000 from by omega), (show SS + 0 + 0 ≤ 7302250 from by omega)⟩) hW (fun r_603 L_601 h_602 H locs p_604 hW => ?_)
  obtain ⟨hr_605, hT, hs⟩ := p_604
  have hT : hx_T T_tb L_601 h_602 := hT
  have hs : hx_S T_tb [(10, 59), (10, 67), (10, 68), (10, 69), (10, 70), (10, 71), (10, 83), (10, 84), (10, 86), (10, 87), (93, 0), (94, 0), (95, 0), (96, 0), (97, 0), (108, 0), (109, 0), (110, 0), (111, 0)] L_569 h_570 L_601 h_602 := hs
  have f_qa := (hs.o gx trivial rfl).2.trans f_qa
  have f_qp := (hs.o gx trivial rfl).2.trans f_qp
  have f_qc := (hs.o gx trivial rfl).2.trans f_qc
  have f_qh := (hs.o gx trivial rfl).2.trans f_qh
  have f_qw := (hs.o gx trivial rfl).2.trans f_qw
  have f_ql := (hs.o g_qw trivial rfl).2.trans f_ql
  have f_m_now := (hs.o gm trivial rfl).1.trans f_m_now
  have f_m_persons := (hs.o gm trivial rfl).1.trans f_m_persons
  have f_m_claims := (hs.o gm trivial rfl).1.trans f_m_claims
  have f_m_lines := (hs.o gm trivial rfl).1.trans f_m_lines
  have f_m_acts := (hs.o gm trivial rfl).1.trans f_m_acts
  have f_m_heardMany := (hs.o gm trivial rfl).1.trans f_m_heardMany
  have f_x_now := (hs.o gx trivial rfl).1.trans f_x_now
  have f_x_personCount := (hs.o gx trivial rfl).1.trans f_x_personCount
  have f_x_claimCount := (hs.o gx trivial rfl).1.trans f_x_claimCount
  have f_mw := (hs.o gm trivial rfl).2.trans f_mw
  have f_mr := (hs.o gm trivial rfl).2.trans f_mr
  have f_mp := (hs.o gm trivial rfl).2.trans f_mp
  have f_mn := (hs.o gm trivial rfl).2.trans f_mn
  have f_ml := (hs.o gm trivial rfl).2.trans f_ml
  have f_mh := (hs.o gm trivial rfl).2.trans f_mh
  have f_mt := (hs.o gm trivial rfl).2.trans f_mt
  have f_qo_ln := (hs.o gx trivial rfl).2.trans f_qo_ln
  have f_o_ln := (hs.o g_qo_ln trivial rfl).1.trans f_o_ln
  have f_m_dead := (hs.o gm trivial rfl).2.trans f_m_dead
  have f_m_isj := (hs.o gm trivial rfl).2.trans f_m_isj
  have fq_574 := (hs.o gm trivial rfl).2.trans fq_574
  have fq_575 := (hs.o gm trivial rfl).2.trans fq_575
  have fq_576 := (hs.o gm trivial rfl).2.trans fq_576
  have fq_577 := (hs.o gm trivial rfl).2.trans fq_577
  have fq_578 := (hs.o gm trivial rfl).2.trans fq_578
  have fq_579 := (hs.o gm trivial rfl).2.trans fq_579
  have fq_580 := (hs.o gm trivial rfl).2.trans fq_580
  have fq_581 := (hs.o gm trivial rfl).2.trans fq_581
  have fq_582 := (hs.o gm trivial rfl).2.trans fq_582
  have fq_583 := (hs.o gm trivial rfl).2.trans fq_583
  have fq_584 := (hs.o gm trivial rfl).2.trans fq_584
  have fq_585 := (hs.o gm trivial rfl).2.trans fq_585
  have fq_586 := (hs.o gm trivial rfl).2.trans fq_586
  have fq_587 := (hs.o gm trivial rfl).2.trans fq_587
  have fq_588 := (hs.o gm trivial rfl).2.trans fq_588
  have pf_qa : ∀ j : Nat, (j : Int) < (h_602.2.1 ax 6).toInt → h_602.2.2 qa j ≠ none := by
    intro j hj; rw [(hs.o gx trivial rfl).1] at hj; rw [(hs.a g_qa rfl j).2]; exact pf_qa j hj
  have pf_qp : ∀ j : Nat, (j : Int) < (h_602.2.1 ax 8).toInt → h_602.2.2 qp j ≠ none := by
    intro j hj; rw [(hs.o gx trivial rfl).1] at hj; rw [(hs.a g_qp rfl j).2]; exact pf_qp j hj
  have pf_qc : ∀ j : Nat, (j : Int) < (h_602.2.1 ax 11).toInt → h_602.2.2 qc j ≠ none := by
    intro j hj; rw [(hs.o gx trivial rfl).1] at hj; rw [(hs.a g_qc rfl j).2]; exact pf_qc j hj
  have pf_qh : ∀ j : Nat, (j : Int) < (h_602.2.1 ax 13).toInt → h_602.2.2 qh j ≠ none := by
    intro j hj; rw [(hs.o gx trivial rfl).1] at hj; rw [(hs.a g_qh rfl j).2]; exact pf_qh j hj
  have pf_ql : ∀ j : Nat, (j : Int) < (h_602.2.1 qw 0).toInt → h_602.2.2 ql j ≠ none := by
    intro j hj; rw [(hs.o g_qw trivial rfl).1] at hj; rw [(hs.a g_ql rfl j).2]; exact pf_ql j hj
  have cl_dead : hx_col 40 h_602 qp 7 = c_dead := (hx_col_S hs hTo g_qp tt_44 tt_4 rfl rfl).trans cl_dead
  have cl_isj : hx_col 40 h_602 qp 8 = c_isj := (hx_col_S hs hTo g_qp tt_44 tt_4 rfl rfl).trans cl_isj
  have nu_qp : hx_num 40 h_602 qp 0 (np.toInt) := hx_num_S hs hTo g_qp tt_44 tt_4 rfl rfl nu_qp
  have n_mw : h_602.2.1 mw = F_mw := (funext fun j => (hs.a g_mw rfl j).1).trans n_mw
  have n_mr : h_602.2.1 mr = F_mr := (funext fun j => (hs.a g_mr rfl j).1).trans n_mr
  have n_mp : h_602.2.1 mp = F_mp := (funext fun j => (hs.a g_mp rfl j).1).trans n_mp
  have n_mn : h_602.2.1 mn = F_mn := (funext fun j => (hs.a g_mn rfl j).1).trans n_mn
  have n_ml : h_602.2.1 ml = F_ml := (funext fun j => (hs.a g_ml rfl j).1).trans n_ml
  have n_mh : h_602.2.1 mh = F_mh := (funext fun j => (hs.a g_mh rfl j).1).trans n_mh
  have n_mt : h_602.2.1 mt = F_mt := (funext fun j => (hs.a g_mt rfl j).1).trans n_mt
  have n_dead : h_602.2.1 m_dead = F_dead := (funext fun j => (hs.a g_m_dead rfl j).1).trans n_dead
  have n_isj : h_602.2.1 m_isj = F_isj := (funext fun j => (hs.a g_m_isj rfl j).1).trans n_isj
  have nfa_589 : h_602.2.1 q_574 = fa_589 := (funext fun j => (hs.a gq_574 rfl j).1).trans nfa_589
  have nfa_590 : h_602.2.1 q_575 = fa_590 := (funext fun j => (hs.a gq_575 rfl j).1).trans nfa_590
  have nfa_591 : h_602.2.1 q_576 = fa_591 := (funext fun j => (hs.a gq_576 rfl j).1).trans nfa_591
  have nfa_592 : h_602.2.1 q_577 = fa_592 := (funext fun j => (hs.a gq_577 rfl j).1).trans nfa_592
  have nfa_593 : h_602.2.1 q_578 = fa_593 := (funext fun j => (hs.a gq_578 rfl j).1).trans nfa_593
  have nfa_599 : h_602.2.1 q_584 = fa_599 := (funext fun j => (hs.a gq_584 rfl j).1).trans nfa_599
  have nfa_600 : h_602.2.1 q_585 = fa_600 := (funext fun j => (hs.a gq_585 rfl j).1).trans nfa_600
  have gx := gx.S hs
  have gm := gm.S hs
  have g_qa := g_qa.S hs
  have g_qp := g_qp.S hs
  have g_qc := g_qc.S hs
  have g_qh := g_qh.S hs
  have g_qw := g_qw.S hs
  have g_ql := g_ql.S hs
  have g_mw := g_mw.S hs
  have g_mr := g_mr.S hs
  have g_mp := g_mp.S hs
  have g_mn := g_mn.S hs
  have g_ml := g_ml.S hs
  have g_mh := g_mh.S hs
  have g_mt := g_mt.S hs
  have g_qo_ln := g_qo_ln.S hs
  have g_m_dead := g_m_dead.S hs
  have g_m_isj := g_m_isj.S hs
  have gq_574 := gq_574.S hs
  have gq_575 := gq_575.S hs
  have gq_576 := gq_576.S hs
  have gq_577 := gq_577.S hs
  have gq_578 := gq_578.S hs
  have gq_579 := gq_579.S hs
  have gq_580 := gq_580.S hs
  have gq_581 := gq_581.S hs
  have gq_582 := gq_582.S hs
  have gq_583 := gq_583.S hs
  have gq_584 := gq_584.S hs
  have gq_585 := gq_585.S hs
  have gq_586 := gq_586.S hs
  have gq_587 := gq_587.S hs
  have gq_588 := gq_588.S hs
  refine lv_pop hx hb dL_law_1204 rfl ?_
  refine lv_goto (tgt := 1379) hx hb dL_law_1205 (by decide) ?_
  refine W.widen (k := CC + 3) (n := SS + 179) (by omega) (by omega) ?_
  exact kk L_601 h_602 H locs ls hW ⟨hT, gx, gm, ⟨f_x_now.trans f_m_now.symm, f_x_personCount.trans f_m_persons.symm, f_x_claimCount.trans f_m_claims.symm, hx_ob f_qo_ln (f_o_ln.trans f_m_lines.symm), hx_ob f_qp (by rw [f_x_personCount]; exact nu_qp), hx_ob2 f_qp f_m_dead (by rw [cl_dead, n_dead]; exact eq_dead), hx_ob2 f_qp f_m_isj (by rw [cl_isj, n_isj]; exact eq_isj), trivial⟩, ⟨hx_ob f_qa pf_qa, hx_ob f_qp pf_qp, hx_ob f_qc pf_qc, hx_ob f_qh pf_qh, (fun w q hw hq => by obtain rfl : qw = w := Option.some.inj (f_qw.symm.trans hw); obtain rfl : ql = q := Option.some.inj (f_ql.symm.trans hq); exact pf_ql)⟩, ⟨hx_ob f_mw (by rw [n_mw]; exact hwd), hx_ob f_mr (by rw [n_mr, f_m_acts]; exact hWK), hx_ob2 f_mp f_mn (by rw [n_mp, n_mn, f_m_acts]; exact hRP), hx_ob f_ml (by rw [n_ml, f_m_claims, f_m_acts]; exact hPL), hx_ob f_mh (by rw [n_mh, f_m_heardMany, f_m_claims]; exact hHC), hx_ob f_mt (by rw [n_mt]; exact (hx_TR_le hTR (by omega)))⟩⟩ hl
