set_option maxHeartbeats 4000000 in
set_option maxRecDepth 100000 in
theorem law_case_24 {p : Program} {e : Env} {s : State} {m : MethodId} {below : List Frame} {meth : Method} {c : Code} (l : Launch) {b LN : Nat} {xs : Nat → Int32} (hx : p.tables.exec = Jvm.exec) (hb : c.code = code) (hr : meth.sig.returnType = ret) (hlocks : meth.locks = false) (hml : c.maxLocals = 4) (hown : s.vm.findClass "SmallCourtLaw" = some m.cls) (hts : ∀ w ∈ hx_all, w.before #[Value.ref b] s = true) (hX : va_X b LN xs s s.heap) (hbl : b < s.heap.size) (hbA : ¬ s.heap.size ≤ b) (hLN : LN ≤ 3584) (dC : Nat → ClassId) (dI : Nat → Nat → Nat) (dA : Nat → ClassId) (b0 : hx_z) (ax am : Nat) (T1 : Int) (hT0 : 0 ≤ T1) (hT1 : T1 ≤ 511) (i : Int32) (hi0 : 0 ≤ i.toInt) (hiL : i.toInt + 7 ≤ LN) (CC SS : Nat) (hCC : CC + 3 ≤ 600000) (hSS : SS + 179 ≤ 7302250) (L1 : List Nat) (hl1 : hx_h) (H : Heap) (locs : List Loc) (ls : Array Slot) (hW : hx_W T_tb (P_ty dA) (dC, dI) vwCl (fun q : Nat => s.heap.size ≤ q) s.heap L1 hl1 s H locs) (hZ : hx_Xt (fun q : Nat => s.heap.size ≤ q) b0 s) (hI : hx_IV T1 ax am L1 hl1) (hl : lv_has ls 4 [(3, .int i), (2, .ref am), (1, .ref ax), (0, .ref b)]) (kk : ∀ (L2 : List Nat) (h2 : hx_h) (H2 : Heap) (locs2 : List Loc) (ls2 : Array Slot), hx_W T_tb (P_ty dA) (dC, dI) vwCl (fun q : Nat => s.heap.size ≤ q) s.heap L2 h2 s H2 locs2 → hx_IV (T1 + 1) ax am L2 h2 → lv_has ls2 4 [(3, .int i), (2, .ref am), (1, .ref ax), (0, .ref b)] → W p l e room_1 s m #[Value.ref b] below meth c H2 locs2 (CC + 3) (SS + 179) (lw_Z below #[Value.ref b] s) (F0 m 1379 ls2 [])) : W p l e room_1 s m #[Value.ref b] below meth c H locs CC SS (lw_Z below #[Value.ref b] s) (F0 m 1208 ls []) := by
  obtain ⟨hT, gx, gm, ⟨he_nw, he_np, he_c0, ho_ln, ho_lsd, hn_qp, hn_qc, hLQ, hLE, hc_dead, hc_isj, hc_fou, hc_tri, -⟩, ⟨ia, ip, ic, ih, il⟩, ⟨jw, jr, jp, jl, jh, jt, jf⟩⟩ := hI
  obtain ⟨qa, f_qa, g_qa⟩ := hx_rf hT gx tt_9 (k := 5) (u := 43) rfl
  have pf_qa := ia qa f_qa
  obtain ⟨qp, f_qp, g_qp⟩ := hx_rf hT gx tt_9 (k := 7) (u := 44) rfl
  have pf_qp := ip qp f_qp
  obtain ⟨qc, f_qc, g_qc⟩ := hx_rf hT gx tt_9 (k := 10) (u := 45) rfl
  have pf_qc := ic qc f_qc
  obtain ⟨qh, f_qh, g_qh⟩ := hx_rf hT gx tt_9 (k := 12) (u := 46) rfl
  have pf_qh := ih qh f_qh
  obtain ⟨qw, f_qw, g_qw⟩ := hx_rf hT gx tt_9 (k := 19) (u := 8) rfl
  obtain ⟨ql, f_ql, g_ql⟩ := hx_rf hT g_qw tt_8 (k := 3) (u := 40) rfl
  have pf_ql := il qw ql f_qw f_ql
  obtain ⟨nw, f_m_now⟩ : ∃ y : Int32, hl1.2.1 am 0 = y := ⟨_, rfl⟩
  have b_nw := hT.gi gm tt_10 (k := 0) rfl
  rw [f_m_now] at b_nw
  have b_nw : 0 ≤ nw.toInt ∧ nw.toInt ≤ 7999 := b_nw
  obtain ⟨np, f_m_persons⟩ : ∃ y : Int32, hl1.2.1 am 20 = y := ⟨_, rfl⟩
  have b_np := hT.gi gm tt_10 (k := 20) rfl
  rw [f_m_persons] at b_np
  have b_np : 0 ≤ np.toInt ∧ np.toInt ≤ 40 := b_np
  obtain ⟨c0, f_m_claims⟩ : ∃ y : Int32, hl1.2.1 am 36 = y := ⟨_, rfl⟩
  have b_c0 := hT.gi gm tt_10 (k := 36) rfl
  rw [f_m_claims] at b_c0
  have b_c0 : 0 ≤ c0.toInt ∧ c0.toInt ≤ 100 := b_c0
  obtain ⟨ln, f_m_lines⟩ : ∃ y : Int32, hl1.2.1 am 29 = y := ⟨_, rfl⟩
  have b_ln := hT.gi gm tt_10 (k := 29) rfl
  rw [f_m_lines] at b_ln
  have b_ln : 0 ≤ ln.toInt ∧ ln.toInt ≤ 400 := b_ln
  obtain ⟨lsd, f_m_listed⟩ : ∃ y : Int32, hl1.2.1 am 90 = y := ⟨_, rfl⟩
  have b_lsd := hT.gi gm tt_10 (k := 90) rfl
  rw [f_m_listed] at b_lsd
  have b_lsd : 0 ≤ lsd.toInt ∧ lsd.toInt ≤ 8 := b_lsd
  obtain ⟨a0, f_m_acts⟩ : ∃ y : Int32, hl1.2.1 am 1 = y := ⟨_, rfl⟩
  have b_a0 := hT.gi gm tt_10 (k := 1) rfl
  rw [f_m_acts] at b_a0
  have b_a0 : 0 ≤ a0.toInt ∧ a0.toInt ≤ 8 := b_a0
  obtain ⟨m0, f_m_heardMany⟩ : ∃ y : Int32, hl1.2.1 am 57 = y := ⟨_, rfl⟩
  have b_m0 := hT.gi gm tt_10 (k := 57) rfl
  rw [f_m_heardMany] at b_m0
  have b_m0 : 0 ≤ m0.toInt ∧ m0.toInt ≤ 100 := b_m0
  have f_x_now : hl1.2.1 ax 2 = nw := he_nw.trans f_m_now
  have f_x_personCount : hl1.2.1 ax 8 = np := he_np.trans f_m_persons
  have f_x_claimCount : hl1.2.1 ax 11 = c0 := he_c0.trans f_m_claims
  obtain ⟨mw, f_mw, g_mw⟩ := hx_rf hT gm tt_10 (k := 19) (u := 57) rfl
  obtain ⟨F_mw, n_mw⟩ : ∃ g : Nat → Int32, hl1.2.1 mw = g := ⟨_, rfl⟩
  obtain ⟨mr, f_mr, g_mr⟩ := hx_rf hT gm tt_10 (k := 3) (u := 50) rfl
  obtain ⟨F_mr, n_mr⟩ : ∃ g : Nat → Int32, hl1.2.1 mr = g := ⟨_, rfl⟩
  obtain ⟨mp, f_mp, g_mp⟩ := hx_rf hT gm tt_10 (k := 5) (u := 52) rfl
  obtain ⟨F_mp, n_mp⟩ : ∃ g : Nat → Int32, hl1.2.1 mp = g := ⟨_, rfl⟩
  obtain ⟨mn, f_mn, g_mn⟩ := hx_rf hT gm tt_10 (k := 4) (u := 51) rfl
  obtain ⟨F_mn, n_mn⟩ : ∃ g : Nat → Int32, hl1.2.1 mn = g := ⟨_, rfl⟩
  obtain ⟨ml, f_ml, g_ml⟩ := hx_rf hT gm tt_10 (k := 44) (u := 79) rfl
  obtain ⟨F_ml, n_ml⟩ : ∃ g : Nat → Int32, hl1.2.1 ml = g := ⟨_, rfl⟩
  obtain ⟨mh, f_mh, g_mh⟩ := hx_rf hT gm tt_10 (k := 47) (u := 82) rfl
  obtain ⟨F_mh, n_mh⟩ : ∃ g : Nat → Int32, hl1.2.1 mh = g := ⟨_, rfl⟩
  obtain ⟨mt, f_mt, g_mt⟩ := hx_rf hT gm tt_10 (k := 45) (u := 80) rfl
  obtain ⟨F_mt, n_mt⟩ : ∃ g : Nat → Int32, hl1.2.1 mt = g := ⟨_, rfl⟩
  obtain ⟨m_fou, f_m_fou, g_m_fou⟩ := hx_rf hT gm tt_10 (k := 46) (u := 81) rfl
  obtain ⟨F_m_fou, n_m_fou⟩ : ∃ g : Nat → Int32, hl1.2.1 m_fou = g := ⟨_, rfl⟩
  obtain ⟨qo_ln, f_qo_ln, g_qo_ln⟩ := hx_rf hT gx tt_9 (k := 9) (u := 1) rfl
  have f_o_ln : hl1.2.1 qo_ln 0 = ln := (ho_ln qo_ln f_qo_ln).trans f_m_lines
  have f_o_lsd : hl1.2.1 qw 0 = lsd := (ho_lsd qw f_qw).trans f_m_listed
  have nu_qp := hn_qp qp f_qp; rw [f_x_personCount] at nu_qp
  have nu_qc := hn_qc qc f_qc; rw [f_x_claimCount] at nu_qc
  have sb_list := hLQ qw ql qc f_qw f_ql f_qc
  obtain ⟨m_lst, f_m_lst, g_m_lst⟩ := hx_rf hT gm tt_10 (k := 91) (u := 112) rfl
  obtain ⟨F_lst, n_lst⟩ : ∃ g : Nat → Int32, hl1.2.1 m_lst = g := ⟨_, rfl⟩
  obtain ⟨c_lst, cl_lst⟩ : ∃ g : Nat → Int32, hx_col 8 hl1 ql 0 = g := ⟨_, rfl⟩
  have eq_lst := hLE qw ql m_lst f_qw f_ql f_m_lst; rw [cl_lst, n_lst] at eq_lst
  obtain ⟨c_dead, cl_dead⟩ : ∃ g : Nat → Int32, hx_col 40 hl1 qp 7 = g := ⟨_, rfl⟩
  obtain ⟨m_dead, f_m_dead, g_m_dead⟩ := hx_rf hT gm tt_10 (k := 27) (u := 64) rfl
  obtain ⟨F_dead, n_dead⟩ : ∃ g : Nat → Int32, hl1.2.1 m_dead = g := ⟨_, rfl⟩
  have eq_dead := hc_dead qp m_dead f_qp f_m_dead; rw [cl_dead, n_dead] at eq_dead
  have z_dead : np.toInt.toNat < 40 → c_dead np.toInt.toNat = 0 := fun hj => hx_num_z nu_qp cl_dead hj (by omega)
  obtain ⟨c_isj, cl_isj⟩ : ∃ g : Nat → Int32, hx_col 40 hl1 qp 8 = g := ⟨_, rfl⟩
  obtain ⟨m_isj, f_m_isj, g_m_isj⟩ := hx_rf hT gm tt_10 (k := 28) (u := 65) rfl
  obtain ⟨F_isj, n_isj⟩ : ∃ g : Nat → Int32, hl1.2.1 m_isj = g := ⟨_, rfl⟩
  have eq_isj := hc_isj qp m_isj f_qp f_m_isj; rw [cl_isj, n_isj] at eq_isj
  have z_isj : np.toInt.toNat < 40 → c_isj np.toInt.toNat = 0 := fun hj => hx_num_z nu_qp cl_isj hj (by omega)
  obtain ⟨c_fou, cl_fou⟩ : ∃ g : Nat → Int32, hx_col 100 hl1 qc 10 = g := ⟨_, rfl⟩
  have eq_fou := hc_fou qc m_fou f_qc f_m_fou; rw [cl_fou, n_m_fou] at eq_fou
  have z_fou : c0.toInt.toNat < 100 → c_fou c0.toInt.toNat = 0 := fun hj => hx_num_z nu_qc cl_fou hj (by omega)
  obtain ⟨c_tri, cl_tri⟩ : ∃ g : Nat → Int32, hx_col 100 hl1 qc 9 = g := ⟨_, rfl⟩
  have eq_tri := hc_tri qc mt f_qc f_mt; rw [cl_tri, n_mt] at eq_tri
  have z_tri : c0.toInt.toNat < 100 → c_tri c0.toInt.toNat = 0 := fun hj => hx_num_z nu_qc cl_tri hj (by omega)
  have hwd := jw mw f_mw; rw [n_mw] at hwd
  have hWK := jr mr f_mr; rw [n_mr, f_m_acts] at hWK
  have hRP := jp mp mn f_mp f_mn; rw [n_mp, n_mn, f_m_acts] at hRP
  have hPL := jl ml f_ml; rw [n_ml, f_m_claims, f_m_acts] at hPL
  have hHC := jh mh f_mh; rw [n_mh, f_m_heardMany, f_m_claims] at hHC
  have hTR := jt mt f_mt; rw [n_mt] at hTR
  have hHF := jf mh m_fou f_mh f_m_fou; rw [n_mh, n_m_fou, f_m_claims] at hHF
  refine lv_aload_n hx hb dL_law_1208 rfl (lv_at hl 2 rfl) ?_
  refine lv_aload_n hx hb dL_law_1209 rfl (lv_at hl 3 rfl) ?_
  refine lv_iload_n hx hb dL_law_1210 rfl (lv_at hl 0 rfl) ?_
  refine lv_iconst (v := 1) hx hb dL_law_1211 (by decide) ?_
  refine lv_iadd hx hb dL_law_1212 ?_
  have rg_614 := i32_r i
  refine lv_topi (fun x_615 ex_615 => ?_)
  have zx_615 : x_615.toInt = i.toInt + 1 := by rw [ex_615]; exact i32_add rfl (by decide) (by omega) (by omega)
  refine va_sld hx hb hX hbl hbA hW.2.2.2.1 (vp_in_iff.mpr ⟨by omega, by omega⟩) dL_law_1213 ?_
  refine lv_topi (fun x_616 ex_616 => ?_)
  have hTo := hT
  refine hx_goi (hx_runV (As := [.int x_616]) (rest := []) ⟨hx, hb, hml, hown, hts⟩ hW gx tt_9 (T := TX9) (N := 20) rfl (t_X9_netted l dC dI dA L1 hl1 H.size ax x_616 hT gx) (cwV 1 hts (hx_gV kw_1035 kw_1032 kw_1033 kw_1034 kw_94) rfl rfl rfl (by decide +kernel) ⟨Nat.le_of_ble_eq_true rfl, Nat.le_of_ble_eq_true rfl⟩) rfl hl.1 rfl (Nat.le_of_ble_eq_true rfl) dL_law_1214 ⟨(show CC + 0 ≤ 600000 from by omega), (show SS + 0 ≤ 7302250 from by omega)⟩) hW (fun r_619 L_617 h_618 H locs p_620 hW => ?_)
  obtain ⟨hr_621, hT, hs⟩ := p_620
  have hT : hx_T T_tb L_617 h_618 := hT
  have hs : hx_S T_tb [] L1 hl1 L_617 h_618 := hs
  have f_qa := (hs.o gx trivial rfl).2.trans f_qa
  have f_qp := (hs.o gx trivial rfl).2.trans f_qp
  have f_qc := (hs.o gx trivial rfl).2.trans f_qc
  have f_qh := (hs.o gx trivial rfl).2.trans f_qh
  have f_qw := (hs.o gx trivial rfl).2.trans f_qw
  have f_ql := (hs.o g_qw trivial rfl).2.trans f_ql
  have f_m_now := (hs.o gm trivial rfl).1.trans f_m_now
  have f_m_persons := (hs.o gm trivial rfl).1.trans f_m_persons
  have f_m_claims := (hs.o gm trivial rfl).1.trans f_m_claims
  have f_m_lines := (hs.o gm trivial rfl).1.trans f_m_lines
  have f_m_listed := (hs.o gm trivial rfl).1.trans f_m_listed
  have f_m_acts := (hs.o gm trivial rfl).1.trans f_m_acts
  have f_m_heardMany := (hs.o gm trivial rfl).1.trans f_m_heardMany
  have f_x_now := (hs.o gx trivial rfl).1.trans f_x_now
  have f_x_personCount := (hs.o gx trivial rfl).1.trans f_x_personCount
  have f_x_claimCount := (hs.o gx trivial rfl).1.trans f_x_claimCount
  have f_mw := (hs.o gm trivial rfl).2.trans f_mw
  have f_mr := (hs.o gm trivial rfl).2.trans f_mr
  have f_mp := (hs.o gm trivial rfl).2.trans f_mp
  have f_mn := (hs.o gm trivial rfl).2.trans f_mn
  have f_ml := (hs.o gm trivial rfl).2.trans f_ml
  have f_mh := (hs.o gm trivial rfl).2.trans f_mh
  have f_mt := (hs.o gm trivial rfl).2.trans f_mt
  have f_m_fou := (hs.o gm trivial rfl).2.trans f_m_fou
  have f_qo_ln := (hs.o gx trivial rfl).2.trans f_qo_ln
  have f_o_ln := (hs.o g_qo_ln trivial rfl).1.trans f_o_ln
  have f_o_lsd := (hs.o g_qw trivial rfl).1.trans f_o_lsd
  have f_m_lst := (hs.o gm trivial rfl).2.trans f_m_lst
  have f_m_dead := (hs.o gm trivial rfl).2.trans f_m_dead
  have f_m_isj := (hs.o gm trivial rfl).2.trans f_m_isj
  have pf_qa : ∀ j : Nat, (j : Int) < (h_618.2.1 ax 6).toInt → h_618.2.2 qa j ≠ none := by
    intro j hj; rw [(hs.o gx trivial rfl).1] at hj; rw [(hs.a g_qa rfl j).2]; exact pf_qa j hj
  have pf_qp : ∀ j : Nat, (j : Int) < (h_618.2.1 ax 8).toInt → h_618.2.2 qp j ≠ none := by
    intro j hj; rw [(hs.o gx trivial rfl).1] at hj; rw [(hs.a g_qp rfl j).2]; exact pf_qp j hj
  have pf_qc : ∀ j : Nat, (j : Int) < (h_618.2.1 ax 11).toInt → h_618.2.2 qc j ≠ none := by
    intro j hj; rw [(hs.o gx trivial rfl).1] at hj; rw [(hs.a g_qc rfl j).2]; exact pf_qc j hj
  have pf_qh : ∀ j : Nat, (j : Int) < (h_618.2.1 ax 13).toInt → h_618.2.2 qh j ≠ none := by
    intro j hj; rw [(hs.o gx trivial rfl).1] at hj; rw [(hs.a g_qh rfl j).2]; exact pf_qh j hj
  have pf_ql : ∀ j : Nat, (j : Int) < (h_618.2.1 qw 0).toInt → h_618.2.2 ql j ≠ none := by
    intro j hj; rw [(hs.o g_qw trivial rfl).1] at hj; rw [(hs.a g_ql rfl j).2]; exact pf_ql j hj
  have cl_lst : hx_col 8 h_618 ql 0 = c_lst := (hx_col_S hs hTo g_ql tt_40 tt_2 rfl rfl).trans cl_lst
  have cl_dead : hx_col 40 h_618 qp 7 = c_dead := (hx_col_S hs hTo g_qp tt_44 tt_4 rfl rfl).trans cl_dead
  have cl_isj : hx_col 40 h_618 qp 8 = c_isj := (hx_col_S hs hTo g_qp tt_44 tt_4 rfl rfl).trans cl_isj
  have cl_fou : hx_col 100 h_618 qc 10 = c_fou := (hx_col_S hs hTo g_qc tt_45 tt_2 rfl rfl).trans cl_fou
  have cl_tri : hx_col 100 h_618 qc 9 = c_tri := (hx_col_S hs hTo g_qc tt_45 tt_2 rfl rfl).trans cl_tri
  have nu_qp : hx_num 40 h_618 qp 0 (np.toInt) := hx_num_S hs hTo g_qp tt_44 tt_4 rfl rfl nu_qp
  have nu_qc : hx_num 100 h_618 qc 0 (c0.toInt) := hx_num_S hs hTo g_qc tt_45 tt_2 rfl rfl nu_qc
  have sb_list : hx_LQ 8 100 h_618 ql qc := hx_LQ_S hs g_ql g_qc rfl rfl sb_list
  have n_mw : h_618.2.1 mw = F_mw := (funext fun j => (hs.a g_mw rfl j).1).trans n_mw
  have n_mr : h_618.2.1 mr = F_mr := (funext fun j => (hs.a g_mr rfl j).1).trans n_mr
  have n_mp : h_618.2.1 mp = F_mp := (funext fun j => (hs.a g_mp rfl j).1).trans n_mp
  have n_mn : h_618.2.1 mn = F_mn := (funext fun j => (hs.a g_mn rfl j).1).trans n_mn
  have n_ml : h_618.2.1 ml = F_ml := (funext fun j => (hs.a g_ml rfl j).1).trans n_ml
  have n_mh : h_618.2.1 mh = F_mh := (funext fun j => (hs.a g_mh rfl j).1).trans n_mh
  have n_mt : h_618.2.1 mt = F_mt := (funext fun j => (hs.a g_mt rfl j).1).trans n_mt
  have n_m_fou : h_618.2.1 m_fou = F_m_fou := (funext fun j => (hs.a g_m_fou rfl j).1).trans n_m_fou
  have n_lst : h_618.2.1 m_lst = F_lst := (funext fun j => (hs.a g_m_lst rfl j).1).trans n_lst
  have n_dead : h_618.2.1 m_dead = F_dead := (funext fun j => (hs.a g_m_dead rfl j).1).trans n_dead
  have n_isj : h_618.2.1 m_isj = F_isj := (funext fun j => (hs.a g_m_isj rfl j).1).trans n_isj
  have gx := gx.S hs
  have gm := gm.S hs
  have g_qa := g_qa.S hs
  have g_qp := g_qp.S hs
  have g_qc := g_qc.S hs
  have g_qh := g_qh.S hs
  have g_qw := g_qw.S hs
  have g_ql := g_ql.S hs
  have g_mw := g_mw.S hs
  have g_mr := g_mr.S hs
  have g_mp := g_mp.S hs
  have g_mn := g_mn.S hs
  have g_ml := g_ml.S hs
  have g_mh := g_mh.S hs
  have g_mt := g_mt.S hs
  have g_m_fou := g_m_fou.S hs
  have g_qo_ln := g_qo_ln.S hs
  have g_m_lst := g_m_lst.S hs
  have g_m_dead := g_m_dead.S hs
  have g_m_isj := g_m_isj.S hs
  refine lv_pop hx hb dL_law_1217 rfl ?_
  refine lv_aload_n hx hb dL_law_1218 rfl (lv_at hl 1 rfl) ?_
  refine lv_aload_n hx hb dL_law_1219 rfl (lv_at hl 3 rfl) ?_
  refine lv_iload_n hx hb dL_law_1220 rfl (lv_at hl 0 rfl) ?_
  refine lv_iconst (v := 1) hx hb dL_law_1221 (by decide) ?_
  refine lv_iadd hx hb dL_law_1222 ?_
  refine lv_topi (fun x_622 ex_622 => ?_)
  have zx_622 : x_622.toInt = i.toInt + 1 := by rw [ex_622]; exact i32_add rfl (by decide) (by omega) (by omega)
  obtain rfl : x_615 = x_622 := ex_615.trans ex_622.symm
  refine va_sld hx hb hX hbl hbA hW.2.2.2.1 (vp_in_iff.mpr ⟨by omega, by omega⟩) dL_law_1223 ?_
  refine lv_topi (fun x_623 ex_623 => ?_)
  obtain rfl : x_616 = x_623 := ex_616.trans ex_623.symm
  have hTo := hT
  refine hx_goi (hx_runV (As := [.int x_616]) (rest := []) ⟨hx, hb, hml, hown, hts⟩ hW gm tt_10 (T := TX10) (N := 98) rfl (t_X10_netted l dC dI dA L_617 h_618 H.size am x_616 hT gm) (cwV 1 hts (hx_gV kw_1713 kw_1710 kw_1711 kw_1712 kw_103) rfl rfl rfl (by decide +kernel) ⟨Nat.le_of_ble_eq_true rfl, Nat.le_of_ble_eq_true rfl⟩) rfl hl.1 rfl (Nat.le_of_ble_eq_true rfl) dL_law_1224 ⟨(show CC + 0 + 0 ≤ 600000 from by omega), (show SS + 0 + 0 ≤ 7302250 from by omega)⟩) hW (fun r_626 L_624 h_625 H locs p_627 hW => ?_)
  obtain ⟨hr_628, hT, hs⟩ := p_627
  have hT : hx_T T_tb L_624 h_625 := hT
  have hs : hx_S T_tb [] L_617 h_618 L_624 h_625 := hs
  have f_qa := (hs.o gx trivial rfl).2.trans f_qa
  have f_qp := (hs.o gx trivial rfl).2.trans f_qp
  have f_qc := (hs.o gx trivial rfl).2.trans f_qc
  have f_qh := (hs.o gx trivial rfl).2.trans f_qh
  have f_qw := (hs.o gx trivial rfl).2.trans f_qw
  have f_ql := (hs.o g_qw trivial rfl).2.trans f_ql
  have f_m_now := (hs.o gm trivial rfl).1.trans f_m_now
  have f_m_persons := (hs.o gm trivial rfl).1.trans f_m_persons
  have f_m_claims := (hs.o gm trivial rfl).1.trans f_m_claims
  have f_m_lines := (hs.o gm trivial rfl).1.trans f_m_lines
  have f_m_listed := (hs.o gm trivial rfl).1.trans f_m_listed
  have f_m_acts := (hs.o gm trivial rfl).1.trans f_m_acts
  have f_m_heardMany := (hs.o gm trivial rfl).1.trans f_m_heardMany
  have f_x_now := (hs.o gx trivial rfl).1.trans f_x_now
  have f_x_personCount := (hs.o gx trivial rfl).1.trans f_x_personCount
  have f_x_claimCount := (hs.o gx trivial rfl).1.trans f_x_claimCount
  have f_mw := (hs.o gm trivial rfl).2.trans f_mw
  have f_mr := (hs.o gm trivial rfl).2.trans f_mr
  have f_mp := (hs.o gm trivial rfl).2.trans f_mp
  have f_mn := (hs.o gm trivial rfl).2.trans f_mn
  have f_ml := (hs.o gm trivial rfl).2.trans f_ml
  have f_mh := (hs.o gm trivial rfl).2.trans f_mh
  have f_mt := (hs.o gm trivial rfl).2.trans f_mt
  have f_m_fou := (hs.o gm trivial rfl).2.trans f_m_fou
  have f_qo_ln := (hs.o gx trivial rfl).2.trans f_qo_ln
  have f_o_ln := (hs.o g_qo_ln trivial rfl).1.trans f_o_ln
  have f_o_lsd := (hs.o g_qw trivial rfl).1.trans f_o_lsd
  have f_m_lst := (hs.o gm trivial rfl).2.trans f_m_lst
  have f_m_dead := (hs.o gm trivial rfl).2.trans f_m_dead
  have f_m_isj := (hs.o gm trivial rfl).2.trans f_m_isj
  have pf_qa : ∀ j : Nat, (j : Int) < (h_625.2.1 ax 6).toInt → h_625.2.2 qa j ≠ none := by
    intro j hj; rw [(hs.o gx trivial rfl).1] at hj; rw [(hs.a g_qa rfl j).2]; exact pf_qa j hj
  have pf_qp : ∀ j : Nat, (j : Int) < (h_625.2.1 ax 8).toInt → h_625.2.2 qp j ≠ none := by
    intro j hj; rw [(hs.o gx trivial rfl).1] at hj; rw [(hs.a g_qp rfl j).2]; exact pf_qp j hj
  have pf_qc : ∀ j : Nat, (j : Int) < (h_625.2.1 ax 11).toInt → h_625.2.2 qc j ≠ none := by
    intro j hj; rw [(hs.o gx trivial rfl).1] at hj; rw [(hs.a g_qc rfl j).2]; exact pf_qc j hj
  have pf_qh : ∀ j : Nat, (j : Int) < (h_625.2.1 ax 13).toInt → h_625.2.2 qh j ≠ none := by
    intro j hj; rw [(hs.o gx trivial rfl).1] at hj; rw [(hs.a g_qh rfl j).2]; exact pf_qh j hj
  have pf_ql : ∀ j : Nat, (j : Int) < (h_625.2.1 qw 0).toInt → h_625.2.2 ql j ≠ none := by
    intro j hj; rw [(hs.o g_qw trivial rfl).1] at hj; rw [(hs.a g_ql rfl j).2]; exact pf_ql j hj
  have cl_lst : hx_col 8 h_625 ql 0 = c_lst := (hx_col_S hs hTo g_ql tt_40 tt_2 rfl rfl).trans cl_lst
  have cl_dead : hx_col 40 h_625 qp 7 = c_dead := (hx_col_S hs hTo g_qp tt_44 tt_4 rfl rfl).trans cl_dead
  have cl_isj : hx_col 40 h_625 qp 8 = c_isj := (hx_col_S hs hTo g_qp tt_44 tt_4 rfl rfl).trans cl_isj
  have cl_fou : hx_col 100 h_625 qc 10 = c_fou := (hx_col_S hs hTo g_qc tt_45 tt_2 rfl rfl).trans cl_fou
  have cl_tri : hx_col 100 h_625 qc 9 = c_tri := (hx_col_S hs hTo g_qc tt_45 tt_2 rfl rfl).trans cl_tri
  have nu_qp : hx_num 40 h_625 qp 0 (np.toInt) := hx_num_S hs hTo g_qp tt_44 tt_4 rfl rfl nu_qp
  have nu_qc : hx_num 100 h_625 qc 0 (c0.toInt) := hx_num_S hs hTo g_qc tt_45 tt_2 rfl rfl nu_qc
  have sb_list : hx_LQ 8 100 h_625 ql qc := hx_LQ_S hs g_ql g_qc rfl rfl sb_list
  have n_mw : h_625.2.1 mw = F_mw := (funext fun j => (hs.a g_mw rfl j).1).trans n_mw
  have n_mr : h_625.2.1 mr = F_mr := (funext fun j => (hs.a g_mr rfl j).1).trans n_mr
  have n_mp : h_625.2.1 mp = F_mp := (funext fun j => (hs.a g_mp rfl j).1).trans n_mp
  have n_mn : h_625.2.1 mn = F_mn := (funext fun j => (hs.a g_mn rfl j).1).trans n_mn
  have n_ml : h_625.2.1 ml = F_ml := (funext fun j => (hs.a g_ml rfl j).1).trans n_ml
  have n_mh : h_625.2.1 mh = F_mh := (funext fun j => (hs.a g_mh rfl j).1).trans n_mh
  have n_mt : h_625.2.1 mt = F_mt := (funext fun j => (hs.a g_mt rfl j).1).trans n_mt
  have n_m_fou : h_625.2.1 m_fou = F_m_fou := (funext fun j => (hs.a g_m_fou rfl j).1).trans n_m_fou
  have n_lst : h_625.2.1 m_lst = F_lst := (funext fun j => (hs.a g_m_lst rfl j).1).trans n_lst
  have n_dead : h_625.2.1 m_dead = F_dead := (funext fun j => (hs.a g_m_dead rfl j).1).trans n_dead
  have n_isj : h_625.2.1 m_isj = F_isj := (funext fun j => (hs.a g_m_isj rfl j).1).trans n_isj
  have gx := gx.S hs
  have gm := gm.S hs
  have g_qa := g_qa.S hs
  have g_qp := g_qp.S hs
  have g_qc := g_qc.S hs
  have g_qh := g_qh.S hs
  have g_qw := g_qw.S hs
  have g_ql := g_ql.S hs
  have g_mw := g_mw.S hs
  have g_mr := g_mr.S hs
  have g_mp := g_mp.S hs
  have g_mn := g_mn.S hs
  have g_ml := g_ml.S hs
  have g_mh := g_mh.S hs
  have g_mt := g_mt.S hs
  have g_m_fou := g_m_fou.S hs
  have g_qo_ln := g_qo_ln.S hs
  have g_m_lst := g_m_lst.S hs
  have g_m_dead := g_m_dead.S hs
  have g_m_isj := g_m_isj.S hs
  refine lv_pop hx hb dL_law_1227 rfl ?_
  refine lv_goto (tgt := 1379) hx hb dL_law_1228 (by decide) ?_
  refine W.widen (k := CC + 3) (n := SS + 179) (by omega) (by omega) ?_
  exact kk L_624 h_625 H locs ls hW ⟨hT, gx, gm, ⟨f_x_now.trans f_m_now.symm, f_x_personCount.trans f_m_persons.symm, f_x_claimCount.trans f_m_claims.symm, hx_ob f_qo_ln (f_o_ln.trans f_m_lines.symm), hx_ob f_qw (f_o_lsd.trans f_m_listed.symm), hx_ob f_qp (by rw [f_x_personCount]; exact nu_qp), hx_ob f_qc (by rw [f_x_claimCount]; exact nu_qc), (fun w q c hw hq hc => by obtain rfl : qw = w := Option.some.inj (f_qw.symm.trans hw); obtain rfl : ql = q := Option.some.inj (f_ql.symm.trans hq); obtain rfl : qc = c := Option.some.inj (f_qc.symm.trans hc); exact sb_list), (fun w q r hw hq hr => by obtain rfl : qw = w := Option.some.inj (f_qw.symm.trans hw); obtain rfl : ql = q := Option.some.inj (f_ql.symm.trans hq); obtain rfl : m_lst = r := Option.some.inj (f_m_lst.symm.trans hr); rw [cl_lst, n_lst]; exact eq_lst), hx_ob2 f_qp f_m_dead (by rw [cl_dead, n_dead]; exact eq_dead), hx_ob2 f_qp f_m_isj (by rw [cl_isj, n_isj]; exact eq_isj), hx_ob2 f_qc f_m_fou (by rw [cl_fou, n_m_fou]; exact eq_fou), hx_ob2 f_qc f_mt (by rw [cl_tri, n_mt]; exact eq_tri), trivial⟩, ⟨hx_ob f_qa pf_qa, hx_ob f_qp pf_qp, hx_ob f_qc pf_qc, hx_ob f_qh pf_qh, (fun w q hw hq => by obtain rfl : qw = w := Option.some.inj (f_qw.symm.trans hw); obtain rfl : ql = q := Option.some.inj (f_ql.symm.trans hq); exact pf_ql)⟩, ⟨hx_ob f_mw (by rw [n_mw]; exact hwd), hx_ob f_mr (by rw [n_mr, f_m_acts]; exact hWK), hx_ob2 f_mp f_mn (by rw [n_mp, n_mn, f_m_acts]; exact hRP), hx_ob f_ml (by rw [n_ml, f_m_claims, f_m_acts]; exact hPL), hx_ob f_mh (by rw [n_mh, f_m_heardMany, f_m_claims]; exact hHC), hx_ob f_mt (by rw [n_mt]; exact (hx_TR_le hTR (by omega))), hx_ob2 f_mh f_m_fou (by rw [n_mh, n_m_fou, f_m_claims]; exact hHF)⟩⟩ hl

set_option maxHeartbeats 4000000 in
set_option maxRecDepth 100000 in
theorem law_case_25 {p : Program} {e : Env} {s : State} {m : MethodId} {below : List Frame} {meth : Method} {c : Code} (l : Launch) {b LN : Nat} {xs : Nat → Int32} (hx : p.tables.exec = Jvm.exec) (hb : c.code = code) (hr : meth.sig.returnType = ret) (hlocks : meth.locks = false) (hml : c.maxLocals = 4) (hown : s.vm.findClass "SmallCourtLaw" = some m.cls) (hts : ∀ w ∈ hx_all, w.before #[Value.ref b] s = true) (hX : va_X b LN xs s s.heap) (hbl : b < s.heap.size) (hbA : ¬ s.heap.size ≤ b) (hLN : LN ≤ 3584) (dC : Nat → ClassId) (dI : Nat → Nat → Nat) (dA : Nat → ClassId) (b0 : hx_z) (ax am : Nat) (T1 : Int) (hT0 : 0 ≤ T1) (hT1 : T1 ≤ 511) (i : Int32) (hi0 : 0 ≤ i.toInt) (hiL : i.toInt + 7 ≤ LN) (CC SS : Nat) (hCC : CC + 3 ≤ 600000) (hSS : SS + 179 ≤ 7302250) (L1 : List Nat) (hl1 : hx_h) (H : Heap) (locs : List Loc) (ls : Array Slot) (hW : hx_W T_tb (P_ty dA) (dC, dI) vwCl (fun q : Nat => s.heap.size ≤ q) s.heap L1 hl1 s H locs) (hZ : hx_Xt (fun q : Nat => s.heap.size ≤ q) b0 s) (hI : hx_IV T1 ax am L1 hl1) (hl : lv_has ls 4 [(3, .int i), (2, .ref am), (1, .ref ax), (0, .ref b)]) (kk : ∀ (L2 : List Nat) (h2 : hx_h) (H2 : Heap) (locs2 : List Loc) (ls2 : Array Slot), hx_W T_tb (P_ty dA) (dC, dI) vwCl (fun q : Nat => s.heap.size ≤ q) s.heap L2 h2 s H2 locs2 → hx_IV (T1 + 1) ax am L2 h2 → lv_has ls2 4 [(3, .int i), (2, .ref am), (1, .ref ax), (0, .ref b)] → W p l e room_1 s m #[Value.ref b] below meth c H2 locs2 (CC + 3) (SS + 179) (lw_Z below #[Value.ref b] s) (F0 m 1379 ls2 [])) : W p l e room_1 s m #[Value.ref b] below meth c H locs CC SS (lw_Z below #[Value.ref b] s) (F0 m 1231 ls []) := by
  obtain ⟨hT, gx, gm, ⟨he_nw, he_np, he_c0, ho_ln, ho_lsd, hn_qp, hn_qc, hLQ, hLE, hc_dead, hc_isj, hc_fou, hc_tri, -⟩, ⟨ia, ip, ic, ih, il⟩, ⟨jw, jr, jp, jl, jh, jt, jf⟩⟩ := hI
  obtain ⟨qa, f_qa, g_qa⟩ := hx_rf hT gx tt_9 (k := 5) (u := 43) rfl
  have pf_qa := ia qa f_qa
  obtain ⟨qp, f_qp, g_qp⟩ := hx_rf hT gx tt_9 (k := 7) (u := 44) rfl
  have pf_qp := ip qp f_qp
  obtain ⟨qc, f_qc, g_qc⟩ := hx_rf hT gx tt_9 (k := 10) (u := 45) rfl
  have pf_qc := ic qc f_qc
  obtain ⟨qh, f_qh, g_qh⟩ := hx_rf hT gx tt_9 (k := 12) (u := 46) rfl
  have pf_qh := ih qh f_qh
  obtain ⟨qw, f_qw, g_qw⟩ := hx_rf hT gx tt_9 (k := 19) (u := 8) rfl
  obtain ⟨ql, f_ql, g_ql⟩ := hx_rf hT g_qw tt_8 (k := 3) (u := 40) rfl
  have pf_ql := il qw ql f_qw f_ql
  obtain ⟨nw, f_m_now⟩ : ∃ y : Int32, hl1.2.1 am 0 = y := ⟨_, rfl⟩
  have b_nw := hT.gi gm tt_10 (k := 0) rfl
  rw [f_m_now] at b_nw
  have b_nw : 0 ≤ nw.toInt ∧ nw.toInt ≤ 7999 := b_nw
  obtain ⟨np, f_m_persons⟩ : ∃ y : Int32, hl1.2.1 am 20 = y := ⟨_, rfl⟩
  have b_np := hT.gi gm tt_10 (k := 20) rfl
  rw [f_m_persons] at b_np
  have b_np : 0 ≤ np.toInt ∧ np.toInt ≤ 40 := b_np
  obtain ⟨c0, f_m_claims⟩ : ∃ y : Int32, hl1.2.1 am 36 = y := ⟨_, rfl⟩
  have b_c0 := hT.gi gm tt_10 (k := 36) rfl
  rw [f_m_claims] at b_c0
  have b_c0 : 0 ≤ c0.toInt ∧ c0.toInt ≤ 100 := b_c0
  obtain ⟨ln, f_m_lines⟩ : ∃ y : Int32, hl1.2.1 am 29 = y := ⟨_, rfl⟩
  have b_ln := hT.gi gm tt_10 (k := 29) rfl
  rw [f_m_lines] at b_ln
  have b_ln : 0 ≤ ln.toInt ∧ ln.toInt ≤ 400 := b_ln
  obtain ⟨lsd, f_m_listed⟩ : ∃ y : Int32, hl1.2.1 am 90 = y := ⟨_, rfl⟩
  have b_lsd := hT.gi gm tt_10 (k := 90) rfl
  rw [f_m_listed] at b_lsd
  have b_lsd : 0 ≤ lsd.toInt ∧ lsd.toInt ≤ 8 := b_lsd
  obtain ⟨a0, f_m_acts⟩ : ∃ y : Int32, hl1.2.1 am 1 = y := ⟨_, rfl⟩
  have b_a0 := hT.gi gm tt_10 (k := 1) rfl
  rw [f_m_acts] at b_a0
  have b_a0 : 0 ≤ a0.toInt ∧ a0.toInt ≤ 8 := b_a0
  obtain ⟨m0, f_m_heardMany⟩ : ∃ y : Int32, hl1.2.1 am 57 = y := ⟨_, rfl⟩
  have b_m0 := hT.gi gm tt_10 (k := 57) rfl
  rw [f_m_heardMany] at b_m0
  have b_m0 : 0 ≤ m0.toInt ∧ m0.toInt ≤ 100 := b_m0
  have f_x_now : hl1.2.1 ax 2 = nw := he_nw.trans f_m_now
  have f_x_personCount : hl1.2.1 ax 8 = np := he_np.trans f_m_persons
  have f_x_claimCount : hl1.2.1 ax 11 = c0 := he_c0.trans f_m_claims
  obtain ⟨mw, f_mw, g_mw⟩ := hx_rf hT gm tt_10 (k := 19) (u := 57) rfl
  obtain ⟨F_mw, n_mw⟩ : ∃ g : Nat → Int32, hl1.2.1 mw = g := ⟨_, rfl⟩
  obtain ⟨mr, f_mr, g_mr⟩ := hx_rf hT gm tt_10 (k := 3) (u := 50) rfl
  obtain ⟨F_mr, n_mr⟩ : ∃ g : Nat → Int32, hl1.2.1 mr = g := ⟨_, rfl⟩
  obtain ⟨mp, f_mp, g_mp⟩ := hx_rf hT gm tt_10 (k := 5) (u := 52) rfl
  obtain ⟨F_mp, n_mp⟩ : ∃ g : Nat → Int32, hl1.2.1 mp = g := ⟨_, rfl⟩
  obtain ⟨mn, f_mn, g_mn⟩ := hx_rf hT gm tt_10 (k := 4) (u := 51) rfl
  obtain ⟨F_mn, n_mn⟩ : ∃ g : Nat → Int32, hl1.2.1 mn = g := ⟨_, rfl⟩
  obtain ⟨ml, f_ml, g_ml⟩ := hx_rf hT gm tt_10 (k := 44) (u := 79) rfl
  obtain ⟨F_ml, n_ml⟩ : ∃ g : Nat → Int32, hl1.2.1 ml = g := ⟨_, rfl⟩
  obtain ⟨mh, f_mh, g_mh⟩ := hx_rf hT gm tt_10 (k := 47) (u := 82) rfl
  obtain ⟨F_mh, n_mh⟩ : ∃ g : Nat → Int32, hl1.2.1 mh = g := ⟨_, rfl⟩
  obtain ⟨mt, f_mt, g_mt⟩ := hx_rf hT gm tt_10 (k := 45) (u := 80) rfl
  obtain ⟨F_mt, n_mt⟩ : ∃ g : Nat → Int32, hl1.2.1 mt = g := ⟨_, rfl⟩
  obtain ⟨m_fou, f_m_fou, g_m_fou⟩ := hx_rf hT gm tt_10 (k := 46) (u := 81) rfl
  obtain ⟨F_m_fou, n_m_fou⟩ : ∃ g : Nat → Int32, hl1.2.1 m_fou = g := ⟨_, rfl⟩
  obtain ⟨qo_ln, f_qo_ln, g_qo_ln⟩ := hx_rf hT gx tt_9 (k := 9) (u := 1) rfl
  have f_o_ln : hl1.2.1 qo_ln 0 = ln := (ho_ln qo_ln f_qo_ln).trans f_m_lines
  have f_o_lsd : hl1.2.1 qw 0 = lsd := (ho_lsd qw f_qw).trans f_m_listed
  have nu_qp := hn_qp qp f_qp; rw [f_x_personCount] at nu_qp
  have nu_qc := hn_qc qc f_qc; rw [f_x_claimCount] at nu_qc
  have sb_list := hLQ qw ql qc f_qw f_ql f_qc
  obtain ⟨m_lst, f_m_lst, g_m_lst⟩ := hx_rf hT gm tt_10 (k := 91) (u := 112) rfl
  obtain ⟨F_lst, n_lst⟩ : ∃ g : Nat → Int32, hl1.2.1 m_lst = g := ⟨_, rfl⟩
  obtain ⟨c_lst, cl_lst⟩ : ∃ g : Nat → Int32, hx_col 8 hl1 ql 0 = g := ⟨_, rfl⟩
  have eq_lst := hLE qw ql m_lst f_qw f_ql f_m_lst; rw [cl_lst, n_lst] at eq_lst
  obtain ⟨c_dead, cl_dead⟩ : ∃ g : Nat → Int32, hx_col 40 hl1 qp 7 = g := ⟨_, rfl⟩
  obtain ⟨m_dead, f_m_dead, g_m_dead⟩ := hx_rf hT gm tt_10 (k := 27) (u := 64) rfl
  obtain ⟨F_dead, n_dead⟩ : ∃ g : Nat → Int32, hl1.2.1 m_dead = g := ⟨_, rfl⟩
  have eq_dead := hc_dead qp m_dead f_qp f_m_dead; rw [cl_dead, n_dead] at eq_dead
  have z_dead : np.toInt.toNat < 40 → c_dead np.toInt.toNat = 0 := fun hj => hx_num_z nu_qp cl_dead hj (by omega)
  obtain ⟨c_isj, cl_isj⟩ : ∃ g : Nat → Int32, hx_col 40 hl1 qp 8 = g := ⟨_, rfl⟩
  obtain ⟨m_isj, f_m_isj, g_m_isj⟩ := hx_rf hT gm tt_10 (k := 28) (u := 65) rfl
  obtain ⟨F_isj, n_isj⟩ : ∃ g : Nat → Int32, hl1.2.1 m_isj = g := ⟨_, rfl⟩
  have eq_isj := hc_isj qp m_isj f_qp f_m_isj; rw [cl_isj, n_isj] at eq_isj
  have z_isj : np.toInt.toNat < 40 → c_isj np.toInt.toNat = 0 := fun hj => hx_num_z nu_qp cl_isj hj (by omega)
  obtain ⟨c_fou, cl_fou⟩ : ∃ g : Nat → Int32, hx_col 100 hl1 qc 10 = g := ⟨_, rfl⟩
  have eq_fou := hc_fou qc m_fou f_qc f_m_fou; rw [cl_fou, n_m_fou] at eq_fou
  have z_fou : c0.toInt.toNat < 100 → c_fou c0.toInt.toNat = 0 := fun hj => hx_num_z nu_qc cl_fou hj (by omega)
  obtain ⟨c_tri, cl_tri⟩ : ∃ g : Nat → Int32, hx_col 100 hl1 qc 9 = g := ⟨_, rfl⟩
  have eq_tri := hc_tri qc mt f_qc f_mt; rw [cl_tri, n_mt] at eq_tri
  have z_tri : c0.toInt.toNat < 100 → c_tri c0.toInt.toNat = 0 := fun hj => hx_num_z nu_qc cl_tri hj (by omega)
  have hwd := jw mw f_mw; rw [n_mw] at hwd
  have hWK := jr mr f_mr; rw [n_mr, f_m_acts] at hWK
  have hRP := jp mp mn f_mp f_mn; rw [n_mp, n_mn, f_m_acts] at hRP
  have hPL := jl ml f_ml; rw [n_ml, f_m_claims, f_m_acts] at hPL
  have hHC := jh mh f_mh; rw [n_mh, f_m_heardMany, f_m_claims] at hHC
  have hTR := jt mt f_mt; rw [n_mt] at hTR
  have hHF := jf mh m_fou f_mh f_m_fou; rw [n_mh, n_m_fou, f_m_claims] at hHF
  refine lv_aload_n hx hb dL_law_1231 rfl (lv_at hl 2 rfl) ?_
  refine lv_aload_n hx hb dL_law_1232 rfl (lv_at hl 3 rfl) ?_
  refine lv_iload_n hx hb dL_law_1233 rfl (lv_at hl 0 rfl) ?_
  refine lv_iconst (v := 1) hx hb dL_law_1234 (by decide) ?_
  refine lv_iadd hx hb dL_law_1235 ?_
  have rg_629 := i32_r i
  refine lv_topi (fun x_630 ex_630 => ?_)
  have zx_630 : x_630.toInt = i.toInt + 1 := by rw [ex_630]; exact i32_add rfl (by decide) (by omega) (by omega)
  refine va_sld hx hb hX hbl hbA hW.2.2.2.1 (vp_in_iff.mpr ⟨by omega, by omega⟩) dL_law_1236 ?_
  refine lv_topi (fun x_631 ex_631 => ?_)
  have hTo := hT
  refine hx_goi (hx_runV (As := [.int x_631]) (rest := []) ⟨hx, hb, hml, hown, hts⟩ hW gx tt_9 (T := TX9) (N := 20) rfl (t_X9_list_2 l dC dI dA L1 hl1 H.size ax x_631 hT gx qc g_qc f_qc qw g_qw f_qw ql g_ql f_ql c0 f_x_claimCount lsd f_o_lsd c_fou cl_fou c_lst cl_lst nu_qc sb_list pf_qc pf_ql) (cwV 1 hts (hx_gV kw_1039 kw_1036 kw_1037 kw_1038 kw_94) rfl rfl rfl (by decide +kernel) ⟨Nat.le_of_ble_eq_true rfl, Nat.le_of_ble_eq_true rfl⟩) rfl hl.1 rfl (Nat.le_of_ble_eq_true rfl) dL_law_1237 ⟨(show CC + 0 ≤ 600000 from by omega), (show SS + 0 ≤ 7302250 from by omega)⟩) hW (fun r_634 L_632 h_633 H locs p_635 hW => ?_)
  obtain ⟨⟨w_638, w_639, fw_638, fw_639, hr_636⟩, hT, hs, pf_637⟩ := p_635
  obtain ⟨sb_640, hr_636⟩ := hr_636
  have hT : hx_T T_tb L_632 h_633 := hT
  have hs : hx_S T_tb [(8, 0), (40, 0)] L1 hl1 L_632 h_633 := hs
  have f_qa := (hs.o gx trivial rfl).2.trans f_qa
  have f_qp := (hs.o gx trivial rfl).2.trans f_qp
  have f_qc := (hs.o gx trivial rfl).2.trans f_qc
  have f_qh := (hs.o gx trivial rfl).2.trans f_qh
  have f_qw := (hs.o gx trivial rfl).2.trans f_qw
  have f_ql := (hs.o g_qw trivial rfl).2.trans f_ql
  have f_m_now := (hs.o gm trivial rfl).1.trans f_m_now
  have f_m_persons := (hs.o gm trivial rfl).1.trans f_m_persons
  have f_m_claims := (hs.o gm trivial rfl).1.trans f_m_claims
  have f_m_lines := (hs.o gm trivial rfl).1.trans f_m_lines
  have f_m_listed := (hs.o gm trivial rfl).1.trans f_m_listed
  have f_m_acts := (hs.o gm trivial rfl).1.trans f_m_acts
  have f_m_heardMany := (hs.o gm trivial rfl).1.trans f_m_heardMany
  have f_x_now := (hs.o gx trivial rfl).1.trans f_x_now
  have f_x_personCount := (hs.o gx trivial rfl).1.trans f_x_personCount
  have f_x_claimCount := (hs.o gx trivial rfl).1.trans f_x_claimCount
  have f_mw := (hs.o gm trivial rfl).2.trans f_mw
  have f_mr := (hs.o gm trivial rfl).2.trans f_mr
  have f_mp := (hs.o gm trivial rfl).2.trans f_mp
  have f_mn := (hs.o gm trivial rfl).2.trans f_mn
  have f_ml := (hs.o gm trivial rfl).2.trans f_ml
  have f_mh := (hs.o gm trivial rfl).2.trans f_mh
  have f_mt := (hs.o gm trivial rfl).2.trans f_mt
  have f_m_fou := (hs.o gm trivial rfl).2.trans f_m_fou
  have f_qo_ln := (hs.o gx trivial rfl).2.trans f_qo_ln
  have f_o_ln := (hs.o g_qo_ln trivial rfl).1.trans f_o_ln
  have f_m_lst := (hs.o gm trivial rfl).2.trans f_m_lst
  have f_m_dead := (hs.o gm trivial rfl).2.trans f_m_dead
  have f_m_isj := (hs.o gm trivial rfl).2.trans f_m_isj
  have pf_qa : ∀ j : Nat, (j : Int) < (h_633.2.1 ax 6).toInt → h_633.2.2 qa j ≠ none := by
    intro j hj; rw [(hs.o gx trivial rfl).1] at hj; rw [(hs.a g_qa rfl j).2]; exact pf_qa j hj
  have pf_qp : ∀ j : Nat, (j : Int) < (h_633.2.1 ax 8).toInt → h_633.2.2 qp j ≠ none := by
    intro j hj; rw [(hs.o gx trivial rfl).1] at hj; rw [(hs.a g_qp rfl j).2]; exact pf_qp j hj
  have pf_qc : ∀ j : Nat, (j : Int) < (h_633.2.1 ax 11).toInt → h_633.2.2 qc j ≠ none := by
    intro j hj; rw [(hs.o gx trivial rfl).1] at hj; rw [(hs.a g_qc rfl j).2]; exact pf_qc j hj
  have pf_qh : ∀ j : Nat, (j : Int) < (h_633.2.1 ax 13).toInt → h_633.2.2 qh j ≠ none := by
    intro j hj; rw [(hs.o gx trivial rfl).1] at hj; rw [(hs.a g_qh rfl j).2]; exact pf_qh j hj
  have cl_dead : hx_col 40 h_633 qp 7 = c_dead := (hx_col_S hs hTo g_qp tt_44 tt_4 rfl rfl).trans cl_dead
  have cl_isj : hx_col 40 h_633 qp 8 = c_isj := (hx_col_S hs hTo g_qp tt_44 tt_4 rfl rfl).trans cl_isj
  have cl_fou : hx_col 100 h_633 qc 10 = c_fou := (hx_col_S hs hTo g_qc tt_45 tt_2 rfl rfl).trans cl_fou
  have cl_tri : hx_col 100 h_633 qc 9 = c_tri := (hx_col_S hs hTo g_qc tt_45 tt_2 rfl rfl).trans cl_tri
  have nu_qp : hx_num 40 h_633 qp 0 (np.toInt) := hx_num_S hs hTo g_qp tt_44 tt_4 rfl rfl nu_qp
  have nu_qc : hx_num 100 h_633 qc 0 (c0.toInt) := hx_num_S hs hTo g_qc tt_45 tt_2 rfl rfl nu_qc
  have n_mw : h_633.2.1 mw = F_mw := (funext fun j => (hs.a g_mw rfl j).1).trans n_mw
  have n_mr : h_633.2.1 mr = F_mr := (funext fun j => (hs.a g_mr rfl j).1).trans n_mr
  have n_mp : h_633.2.1 mp = F_mp := (funext fun j => (hs.a g_mp rfl j).1).trans n_mp
  have n_mn : h_633.2.1 mn = F_mn := (funext fun j => (hs.a g_mn rfl j).1).trans n_mn
  have n_ml : h_633.2.1 ml = F_ml := (funext fun j => (hs.a g_ml rfl j).1).trans n_ml
  have n_mh : h_633.2.1 mh = F_mh := (funext fun j => (hs.a g_mh rfl j).1).trans n_mh
  have n_mt : h_633.2.1 mt = F_mt := (funext fun j => (hs.a g_mt rfl j).1).trans n_mt
  have n_m_fou : h_633.2.1 m_fou = F_m_fou := (funext fun j => (hs.a g_m_fou rfl j).1).trans n_m_fou
  have n_lst : h_633.2.1 m_lst = F_lst := (funext fun j => (hs.a g_m_lst rfl j).1).trans n_lst
  have n_dead : h_633.2.1 m_dead = F_dead := (funext fun j => (hs.a g_m_dead rfl j).1).trans n_dead
  have n_isj : h_633.2.1 m_isj = F_isj := (funext fun j => (hs.a g_m_isj rfl j).1).trans n_isj
  have gx := gx.S hs
  have gm := gm.S hs
  have g_qa := g_qa.S hs
  have g_qp := g_qp.S hs
  have g_qc := g_qc.S hs
  have g_qh := g_qh.S hs
  have g_qw := g_qw.S hs
  have g_ql := g_ql.S hs
  have g_mw := g_mw.S hs
  have g_mr := g_mr.S hs
  have g_mp := g_mp.S hs
  have g_mn := g_mn.S hs
  have g_ml := g_ml.S hs
  have g_mh := g_mh.S hs
  have g_mt := g_mt.S hs
  have g_m_fou := g_m_fou.S hs
  have g_qo_ln := g_qo_ln.S hs
  have g_m_lst := g_m_lst.S hs
  have g_m_dead := g_m_dead.S hs
  have g_m_isj := g_m_isj.S hs
  have pf_637 : ∀ j : Nat, (j : Int) < (h_633.2.1 qw 0).toInt → h_633.2.2 ql j ≠ none := pf_637
  have sb_640 : hx_LQ 8 100 h_633 ql qc := sb_640
  have fw_638 : h_633.2.1 qw 0 = w_638 := fw_638
  have bw_638 := hT.gi g_qw tt_8 (k := 0) rfl
  rw [fw_638] at bw_638
  have bw_638 : 0 ≤ w_638.toInt ∧ w_638.toInt ≤ 8 := bw_638
  have fw_639 : hx_col 8 h_633 ql 0 = w_639 := fw_639
  refine lv_pop hx hb dL_law_1240 rfl ?_
  refine lv_aload_n hx hb dL_law_1241 rfl (lv_at hl 1 rfl) ?_
  refine lv_aload_n hx hb dL_law_1242 rfl (lv_at hl 3 rfl) ?_
  refine lv_iload_n hx hb dL_law_1243 rfl (lv_at hl 0 rfl) ?_
  refine lv_iconst (v := 1) hx hb dL_law_1244 (by decide) ?_
  refine lv_iadd hx hb dL_law_1245 ?_
  refine lv_topi (fun x_641 ex_641 => ?_)
  have zx_641 : x_641.toInt = i.toInt + 1 := by rw [ex_641]; exact i32_add rfl (by decide) (by omega) (by omega)
  obtain rfl : x_630 = x_641 := ex_630.trans ex_641.symm
  refine va_sld hx hb hX hbl hbA hW.2.2.2.1 (vp_in_iff.mpr ⟨by omega, by omega⟩) dL_law_1246 ?_
  refine lv_topi (fun x_642 ex_642 => ?_)
  obtain rfl : x_631 = x_642 := ex_631.trans ex_642.symm
  have hTo := hT
  refine hx_goi (hx_runV (As := [.int x_631]) (rest := []) ⟨hx, hb, hml, hown, hts⟩ hW gm tt_10 (T := TX10) (N := 98) rfl (t_X10_list_2 l dC dI dA L_632 h_633 H.size am x_631 hT gm m_fou g_m_fou f_m_fou mh g_mh f_mh m_lst g_m_lst f_m_lst F_m_fou n_m_fou F_mh n_mh F_lst n_lst c0 f_m_claims lsd f_m_listed hHF) (cwV 1 hts (hx_gV kw_1717 kw_1714 kw_1715 kw_1716 kw_103) rfl rfl rfl (by decide +kernel) ⟨Nat.le_of_ble_eq_true rfl, Nat.le_of_ble_eq_true rfl⟩) rfl hl.1 rfl (Nat.le_of_ble_eq_true rfl) dL_law_1247 ⟨(show CC + 0 + 0 ≤ 600000 from by omega), (show SS + 0 + 0 ≤ 7302250 from by omega)⟩) hW (fun r_645 L_643 h_644 H locs p_646 hW => ?_)
  obtain ⟨⟨w_648, w_649, fw_648, fw_649, hr_647⟩, hT, hs⟩ := p_646
  have hT : hx_T T_tb L_643 h_644 := hT
  have hs : hx_S T_tb [(10, 90), (112, 0)] L_632 h_633 L_643 h_644 := hs
  have f_qa := (hs.o gx trivial rfl).2.trans f_qa
  have f_qp := (hs.o gx trivial rfl).2.trans f_qp
  have f_qc := (hs.o gx trivial rfl).2.trans f_qc
  have f_qh := (hs.o gx trivial rfl).2.trans f_qh
  have f_qw := (hs.o gx trivial rfl).2.trans f_qw
  have f_ql := (hs.o g_qw trivial rfl).2.trans f_ql
  have f_m_now := (hs.o gm trivial rfl).1.trans f_m_now
  have f_m_persons := (hs.o gm trivial rfl).1.trans f_m_persons
  have f_m_claims := (hs.o gm trivial rfl).1.trans f_m_claims
  have f_m_lines := (hs.o gm trivial rfl).1.trans f_m_lines
  have f_m_acts := (hs.o gm trivial rfl).1.trans f_m_acts
  have f_m_heardMany := (hs.o gm trivial rfl).1.trans f_m_heardMany
  have f_x_now := (hs.o gx trivial rfl).1.trans f_x_now
  have f_x_personCount := (hs.o gx trivial rfl).1.trans f_x_personCount
  have f_x_claimCount := (hs.o gx trivial rfl).1.trans f_x_claimCount
  have f_mw := (hs.o gm trivial rfl).2.trans f_mw
  have f_mr := (hs.o gm trivial rfl).2.trans f_mr
  have f_mp := (hs.o gm trivial rfl).2.trans f_mp
  have f_mn := (hs.o gm trivial rfl).2.trans f_mn
  have f_ml := (hs.o gm trivial rfl).2.trans f_ml
  have f_mh := (hs.o gm trivial rfl).2.trans f_mh
  have f_mt := (hs.o gm trivial rfl).2.trans f_mt
  have f_m_fou := (hs.o gm trivial rfl).2.trans f_m_fou
  have f_qo_ln := (hs.o gx trivial rfl).2.trans f_qo_ln
  have f_o_ln := (hs.o g_qo_ln trivial rfl).1.trans f_o_ln
  have f_m_lst := (hs.o gm trivial rfl).2.trans f_m_lst
  have f_m_dead := (hs.o gm trivial rfl).2.trans f_m_dead
  have f_m_isj := (hs.o gm trivial rfl).2.trans f_m_isj
  have fw_638 := (hs.o g_qw trivial rfl).1.trans fw_638
  have pf_qa : ∀ j : Nat, (j : Int) < (h_644.2.1 ax 6).toInt → h_644.2.2 qa j ≠ none := by
    intro j hj; rw [(hs.o gx trivial rfl).1] at hj; rw [(hs.a g_qa rfl j).2]; exact pf_qa j hj
  have pf_qp : ∀ j : Nat, (j : Int) < (h_644.2.1 ax 8).toInt → h_644.2.2 qp j ≠ none := by
    intro j hj; rw [(hs.o gx trivial rfl).1] at hj; rw [(hs.a g_qp rfl j).2]; exact pf_qp j hj
  have pf_qc : ∀ j : Nat, (j : Int) < (h_644.2.1 ax 11).toInt → h_644.2.2 qc j ≠ none := by
    intro j hj; rw [(hs.o gx trivial rfl).1] at hj; rw [(hs.a g_qc rfl j).2]; exact pf_qc j hj
  have pf_qh : ∀ j : Nat, (j : Int) < (h_644.2.1 ax 13).toInt → h_644.2.2 qh j ≠ none := by
    intro j hj; rw [(hs.o gx trivial rfl).1] at hj; rw [(hs.a g_qh rfl j).2]; exact pf_qh j hj
  have pf_637 : ∀ j : Nat, (j : Int) < (h_644.2.1 qw 0).toInt → h_644.2.2 ql j ≠ none := by
    intro j hj; rw [(hs.o g_qw trivial rfl).1] at hj; rw [(hs.a g_ql rfl j).2]; exact pf_637 j hj
  have cl_dead : hx_col 40 h_644 qp 7 = c_dead := (hx_col_S hs hTo g_qp tt_44 tt_4 rfl rfl).trans cl_dead
  have cl_isj : hx_col 40 h_644 qp 8 = c_isj := (hx_col_S hs hTo g_qp tt_44 tt_4 rfl rfl).trans cl_isj
  have cl_fou : hx_col 100 h_644 qc 10 = c_fou := (hx_col_S hs hTo g_qc tt_45 tt_2 rfl rfl).trans cl_fou
  have cl_tri : hx_col 100 h_644 qc 9 = c_tri := (hx_col_S hs hTo g_qc tt_45 tt_2 rfl rfl).trans cl_tri
  have fw_639 : hx_col 8 h_644 ql 0 = w_639 := (hx_col_S hs hTo g_ql tt_40 tt_2 rfl rfl).trans fw_639
  have nu_qp : hx_num 40 h_644 qp 0 (np.toInt) := hx_num_S hs hTo g_qp tt_44 tt_4 rfl rfl nu_qp
  have nu_qc : hx_num 100 h_644 qc 0 (c0.toInt) := hx_num_S hs hTo g_qc tt_45 tt_2 rfl rfl nu_qc
  have sb_640 : hx_LQ 8 100 h_644 ql qc := hx_LQ_S hs g_ql g_qc rfl rfl sb_640
  have n_mw : h_644.2.1 mw = F_mw := (funext fun j => (hs.a g_mw rfl j).1).trans n_mw
  have n_mr : h_644.2.1 mr = F_mr := (funext fun j => (hs.a g_mr rfl j).1).trans n_mr
  have n_mp : h_644.2.1 mp = F_mp := (funext fun j => (hs.a g_mp rfl j).1).trans n_mp
  have n_mn : h_644.2.1 mn = F_mn := (funext fun j => (hs.a g_mn rfl j).1).trans n_mn
  have n_ml : h_644.2.1 ml = F_ml := (funext fun j => (hs.a g_ml rfl j).1).trans n_ml
  have n_mh : h_644.2.1 mh = F_mh := (funext fun j => (hs.a g_mh rfl j).1).trans n_mh
  have n_mt : h_644.2.1 mt = F_mt := (funext fun j => (hs.a g_mt rfl j).1).trans n_mt
  have n_m_fou : h_644.2.1 m_fou = F_m_fou := (funext fun j => (hs.a g_m_fou rfl j).1).trans n_m_fou
  have n_dead : h_644.2.1 m_dead = F_dead := (funext fun j => (hs.a g_m_dead rfl j).1).trans n_dead
  have n_isj : h_644.2.1 m_isj = F_isj := (funext fun j => (hs.a g_m_isj rfl j).1).trans n_isj
  have gx := gx.S hs
  have gm := gm.S hs
  have g_qa := g_qa.S hs
  have g_qp := g_qp.S hs
  have g_qc := g_qc.S hs
  have g_qh := g_qh.S hs
  have g_qw := g_qw.S hs
  have g_ql := g_ql.S hs
  have g_mw := g_mw.S hs
  have g_mr := g_mr.S hs
  have g_mp := g_mp.S hs
  have g_mn := g_mn.S hs
  have g_ml := g_ml.S hs
  have g_mh := g_mh.S hs
  have g_mt := g_mt.S hs
  have g_m_fou := g_m_fou.S hs
  have g_qo_ln := g_qo_ln.S hs
  have g_m_lst := g_m_lst.S hs
  have g_m_dead := g_m_dead.S hs
  have g_m_isj := g_m_isj.S hs
  have fw_648 : h_644.2.1 am 90 = w_648 := fw_648
  have bw_648 := hT.gi gm tt_10 (k := 90) rfl
  rw [fw_648] at bw_648
  have bw_648 : 0 ≤ w_648.toInt ∧ w_648.toInt ≤ 8 := bw_648
  have fw_649 : h_644.2.1 m_lst = w_649 := fw_649
  refine lv_pop hx hb dL_law_1250 rfl ?_
  refine lv_goto (tgt := 1379) hx hb dL_law_1251 (by decide) ?_
  obtain ⟨heq, hq_lsd, hq_lst⟩ := hx_wk (by omega) (by omega) eq_fou eq_lst hr_636 hr_647
  refine W.widen (k := CC + 3) (n := SS + 179) (by omega) (by omega) ?_
  exact kk L_643 h_644 H locs ls hW ⟨hT, gx, gm, ⟨f_x_now.trans f_m_now.symm, f_x_personCount.trans f_m_persons.symm, f_x_claimCount.trans f_m_claims.symm, hx_ob f_qo_ln (f_o_ln.trans f_m_lines.symm), hx_ob f_qw ((fw_638.trans hq_lsd).trans fw_648.symm), hx_ob f_qp (by rw [f_x_personCount]; exact nu_qp), hx_ob f_qc (by rw [f_x_claimCount]; exact nu_qc), (fun w q c hw hq hc => by obtain rfl : qw = w := Option.some.inj (f_qw.symm.trans hw); obtain rfl : ql = q := Option.some.inj (f_ql.symm.trans hq); obtain rfl : qc = c := Option.some.inj (f_qc.symm.trans hc); exact sb_640), (fun w q r hw hq hr => by obtain rfl : qw = w := Option.some.inj (f_qw.symm.trans hw); obtain rfl : ql = q := Option.some.inj (f_ql.symm.trans hq); obtain rfl : m_lst = r := Option.some.inj (f_m_lst.symm.trans hr); rw [fw_639, fw_649]; exact hq_lst), hx_ob2 f_qp f_m_dead (by rw [cl_dead, n_dead]; exact eq_dead), hx_ob2 f_qp f_m_isj (by rw [cl_isj, n_isj]; exact eq_isj), hx_ob2 f_qc f_m_fou (by rw [cl_fou, n_m_fou]; exact eq_fou), hx_ob2 f_qc f_mt (by rw [cl_tri, n_mt]; exact eq_tri), trivial⟩, ⟨hx_ob f_qa pf_qa, hx_ob f_qp pf_qp, hx_ob f_qc pf_qc, hx_ob f_qh pf_qh, (fun w q hw hq => by obtain rfl : qw = w := Option.some.inj (f_qw.symm.trans hw); obtain rfl : ql = q := Option.some.inj (f_ql.symm.trans hq); exact pf_637)⟩, ⟨hx_ob f_mw (by rw [n_mw]; exact hwd), hx_ob f_mr (by rw [n_mr, f_m_acts]; exact hWK), hx_ob2 f_mp f_mn (by rw [n_mp, n_mn, f_m_acts]; exact hRP), hx_ob f_ml (by rw [n_ml, f_m_claims, f_m_acts]; exact hPL), hx_ob f_mh (by rw [n_mh, f_m_heardMany, f_m_claims]; exact hHC), hx_ob f_mt (by rw [n_mt]; exact (hx_TR_le hTR (by omega))), hx_ob2 f_mh f_m_fou (by rw [n_mh, n_m_fou, f_m_claims]; exact hHF)⟩⟩ hl

set_option maxHeartbeats 4000000 in
set_option maxRecDepth 100000 in
theorem law_case_26 {p : Program} {e : Env} {s : State} {m : MethodId} {below : List Frame} {meth : Method} {c : Code} (l : Launch) {b LN : Nat} {xs : Nat → Int32} (hx : p.tables.exec = Jvm.exec) (hb : c.code = code) (hr : meth.sig.returnType = ret) (hlocks : meth.locks = false) (hml : c.maxLocals = 4) (hown : s.vm.findClass "SmallCourtLaw" = some m.cls) (hts : ∀ w ∈ hx_all, w.before #[Value.ref b] s = true) (hX : va_X b LN xs s s.heap) (hbl : b < s.heap.size) (hbA : ¬ s.heap.size ≤ b) (hLN : LN ≤ 3584) (dC : Nat → ClassId) (dI : Nat → Nat → Nat) (dA : Nat → ClassId) (b0 : hx_z) (ax am : Nat) (T1 : Int) (hT0 : 0 ≤ T1) (hT1 : T1 ≤ 511) (i : Int32) (hi0 : 0 ≤ i.toInt) (hiL : i.toInt + 7 ≤ LN) (CC SS : Nat) (hCC : CC + 3 ≤ 600000) (hSS : SS + 179 ≤ 7302250) (L1 : List Nat) (hl1 : hx_h) (H : Heap) (locs : List Loc) (ls : Array Slot) (hW : hx_W T_tb (P_ty dA) (dC, dI) vwCl (fun q : Nat => s.heap.size ≤ q) s.heap L1 hl1 s H locs) (hZ : hx_Xt (fun q : Nat => s.heap.size ≤ q) b0 s) (hI : hx_IV T1 ax am L1 hl1) (hl : lv_has ls 4 [(3, .int i), (2, .ref am), (1, .ref ax), (0, .ref b)]) (kk : ∀ (L2 : List Nat) (h2 : hx_h) (H2 : Heap) (locs2 : List Loc) (ls2 : Array Slot), hx_W T_tb (P_ty dA) (dC, dI) vwCl (fun q : Nat => s.heap.size ≤ q) s.heap L2 h2 s H2 locs2 → hx_IV (T1 + 1) ax am L2 h2 → lv_has ls2 4 [(3, .int i), (2, .ref am), (1, .ref ax), (0, .ref b)] → W p l e room_1 s m #[Value.ref b] below meth c H2 locs2 (CC + 3) (SS + 179) (lw_Z below #[Value.ref b] s) (F0 m 1379 ls2 [])) : W p l e room_1 s m #[Value.ref b] below meth c H locs CC SS (lw_Z below #[Value.ref b] s) (F0 m 1254 ls []) := by
  obtain ⟨hT, gx, gm, ⟨he_nw, he_np, he_c0, ho_ln, ho_lsd, hn_qp, hn_qc, hLQ, hLE, hc_dead, hc_isj, hc_fou, hc_tri, -⟩, ⟨ia, ip, ic, ih, il⟩, ⟨jw, jr, jp, jl, jh, jt, jf⟩⟩ := hI
  obtain ⟨qa, f_qa, g_qa⟩ := hx_rf hT gx tt_9 (k := 5) (u := 43) rfl
  have pf_qa := ia qa f_qa
  obtain ⟨qp, f_qp, g_qp⟩ := hx_rf hT gx tt_9 (k := 7) (u := 44) rfl
  have pf_qp := ip qp f_qp
  obtain ⟨qc, f_qc, g_qc⟩ := hx_rf hT gx tt_9 (k := 10) (u := 45) rfl
  have pf_qc := ic qc f_qc
  obtain ⟨qh, f_qh, g_qh⟩ := hx_rf hT gx tt_9 (k := 12) (u := 46) rfl
  have pf_qh := ih qh f_qh
  obtain ⟨qw, f_qw, g_qw⟩ := hx_rf hT gx tt_9 (k := 19) (u := 8) rfl
  obtain ⟨ql, f_ql, g_ql⟩ := hx_rf hT g_qw tt_8 (k := 3) (u := 40) rfl
  have pf_ql := il qw ql f_qw f_ql
  obtain ⟨nw, f_m_now⟩ : ∃ y : Int32, hl1.2.1 am 0 = y := ⟨_, rfl⟩
  have b_nw := hT.gi gm tt_10 (k := 0) rfl
  rw [f_m_now] at b_nw
  have b_nw : 0 ≤ nw.toInt ∧ nw.toInt ≤ 7999 := b_nw
  obtain ⟨np, f_m_persons⟩ : ∃ y : Int32, hl1.2.1 am 20 = y := ⟨_, rfl⟩
  have b_np := hT.gi gm tt_10 (k := 20) rfl
  rw [f_m_persons] at b_np
  have b_np : 0 ≤ np.toInt ∧ np.toInt ≤ 40 := b_np
  obtain ⟨c0, f_m_claims⟩ : ∃ y : Int32, hl1.2.1 am 36 = y := ⟨_, rfl⟩
  have b_c0 := hT.gi gm tt_10 (k := 36) rfl
  rw [f_m_claims] at b_c0
  have b_c0 : 0 ≤ c0.toInt ∧ c0.toInt ≤ 100 := b_c0
  obtain ⟨ln, f_m_lines⟩ : ∃ y : Int32, hl1.2.1 am 29 = y := ⟨_, rfl⟩
  have b_ln := hT.gi gm tt_10 (k := 29) rfl
  rw [f_m_lines] at b_ln
  have b_ln : 0 ≤ ln.toInt ∧ ln.toInt ≤ 400 := b_ln
  obtain ⟨lsd, f_m_listed⟩ : ∃ y : Int32, hl1.2.1 am 90 = y := ⟨_, rfl⟩
  have b_lsd := hT.gi gm tt_10 (k := 90) rfl
  rw [f_m_listed] at b_lsd
  have b_lsd : 0 ≤ lsd.toInt ∧ lsd.toInt ≤ 8 := b_lsd
  obtain ⟨a0, f_m_acts⟩ : ∃ y : Int32, hl1.2.1 am 1 = y := ⟨_, rfl⟩
  have b_a0 := hT.gi gm tt_10 (k := 1) rfl
  rw [f_m_acts] at b_a0
  have b_a0 : 0 ≤ a0.toInt ∧ a0.toInt ≤ 8 := b_a0
  obtain ⟨m0, f_m_heardMany⟩ : ∃ y : Int32, hl1.2.1 am 57 = y := ⟨_, rfl⟩
  have b_m0 := hT.gi gm tt_10 (k := 57) rfl
  rw [f_m_heardMany] at b_m0
  have b_m0 : 0 ≤ m0.toInt ∧ m0.toInt ≤ 100 := b_m0
  have f_x_now : hl1.2.1 ax 2 = nw := he_nw.trans f_m_now
  have f_x_personCount : hl1.2.1 ax 8 = np := he_np.trans f_m_persons
  have f_x_claimCount : hl1.2.1 ax 11 = c0 := he_c0.trans f_m_claims
  obtain ⟨mw, f_mw, g_mw⟩ := hx_rf hT gm tt_10 (k := 19) (u := 57) rfl
  obtain ⟨F_mw, n_mw⟩ : ∃ g : Nat → Int32, hl1.2.1 mw = g := ⟨_, rfl⟩
  obtain ⟨mr, f_mr, g_mr⟩ := hx_rf hT gm tt_10 (k := 3) (u := 50) rfl
  obtain ⟨F_mr, n_mr⟩ : ∃ g : Nat → Int32, hl1.2.1 mr = g := ⟨_, rfl⟩
  obtain ⟨mp, f_mp, g_mp⟩ := hx_rf hT gm tt_10 (k := 5) (u := 52) rfl
  obtain ⟨F_mp, n_mp⟩ : ∃ g : Nat → Int32, hl1.2.1 mp = g := ⟨_, rfl⟩
  obtain ⟨mn, f_mn, g_mn⟩ := hx_rf hT gm tt_10 (k := 4) (u := 51) rfl
  obtain ⟨F_mn, n_mn⟩ : ∃ g : Nat → Int32, hl1.2.1 mn = g := ⟨_, rfl⟩
  obtain ⟨ml, f_ml, g_ml⟩ := hx_rf hT gm tt_10 (k := 44) (u := 79) rfl
  obtain ⟨F_ml, n_ml⟩ : ∃ g : Nat → Int32, hl1.2.1 ml = g := ⟨_, rfl⟩
  obtain ⟨mh, f_mh, g_mh⟩ := hx_rf hT gm tt_10 (k := 47) (u := 82) rfl
  obtain ⟨F_mh, n_mh⟩ : ∃ g : Nat → Int32, hl1.2.1 mh = g := ⟨_, rfl⟩
  obtain ⟨mt, f_mt, g_mt⟩ := hx_rf hT gm tt_10 (k := 45) (u := 80) rfl
  obtain ⟨F_mt, n_mt⟩ : ∃ g : Nat → Int32, hl1.2.1 mt = g := ⟨_, rfl⟩
  obtain ⟨m_fou, f_m_fou, g_m_fou⟩ := hx_rf hT gm tt_10 (k := 46) (u := 81) rfl
  obtain ⟨F_m_fou, n_m_fou⟩ : ∃ g : Nat → Int32, hl1.2.1 m_fou = g := ⟨_, rfl⟩
  obtain ⟨qo_ln, f_qo_ln, g_qo_ln⟩ := hx_rf hT gx tt_9 (k := 9) (u := 1) rfl
  have f_o_ln : hl1.2.1 qo_ln 0 = ln := (ho_ln qo_ln f_qo_ln).trans f_m_lines
  have f_o_lsd : hl1.2.1 qw 0 = lsd := (ho_lsd qw f_qw).trans f_m_listed
  have nu_qp := hn_qp qp f_qp; rw [f_x_personCount] at nu_qp
  have nu_qc := hn_qc qc f_qc; rw [f_x_claimCount] at nu_qc
  have sb_list := hLQ qw ql qc f_qw f_ql f_qc
  obtain ⟨m_lst, f_m_lst, g_m_lst⟩ := hx_rf hT gm tt_10 (k := 91) (u := 112) rfl
  obtain ⟨F_lst, n_lst⟩ : ∃ g : Nat → Int32, hl1.2.1 m_lst = g := ⟨_, rfl⟩
  obtain ⟨c_lst, cl_lst⟩ : ∃ g : Nat → Int32, hx_col 8 hl1 ql 0 = g := ⟨_, rfl⟩
  have eq_lst := hLE qw ql m_lst f_qw f_ql f_m_lst; rw [cl_lst, n_lst] at eq_lst
  obtain ⟨c_dead, cl_dead⟩ : ∃ g : Nat → Int32, hx_col 40 hl1 qp 7 = g := ⟨_, rfl⟩
  obtain ⟨m_dead, f_m_dead, g_m_dead⟩ := hx_rf hT gm tt_10 (k := 27) (u := 64) rfl
  obtain ⟨F_dead, n_dead⟩ : ∃ g : Nat → Int32, hl1.2.1 m_dead = g := ⟨_, rfl⟩
  have eq_dead := hc_dead qp m_dead f_qp f_m_dead; rw [cl_dead, n_dead] at eq_dead
  have z_dead : np.toInt.toNat < 40 → c_dead np.toInt.toNat = 0 := fun hj => hx_num_z nu_qp cl_dead hj (by omega)
  obtain ⟨c_isj, cl_isj⟩ : ∃ g : Nat → Int32, hx_col 40 hl1 qp 8 = g := ⟨_, rfl⟩
  obtain ⟨m_isj, f_m_isj, g_m_isj⟩ := hx_rf hT gm tt_10 (k := 28) (u := 65) rfl
  obtain ⟨F_isj, n_isj⟩ : ∃ g : Nat → Int32, hl1.2.1 m_isj = g := ⟨_, rfl⟩
  have eq_isj := hc_isj qp m_isj f_qp f_m_isj; rw [cl_isj, n_isj] at eq_isj
  have z_isj : np.toInt.toNat < 40 → c_isj np.toInt.toNat = 0 := fun hj => hx_num_z nu_qp cl_isj hj (by omega)
  obtain ⟨c_fou, cl_fou⟩ : ∃ g : Nat → Int32, hx_col 100 hl1 qc 10 = g := ⟨_, rfl⟩
  have eq_fou := hc_fou qc m_fou f_qc f_m_fou; rw [cl_fou, n_m_fou] at eq_fou
  have z_fou : c0.toInt.toNat < 100 → c_fou c0.toInt.toNat = 0 := fun hj => hx_num_z nu_qc cl_fou hj (by omega)
  obtain ⟨c_tri, cl_tri⟩ : ∃ g : Nat → Int32, hx_col 100 hl1 qc 9 = g := ⟨_, rfl⟩
  have eq_tri := hc_tri qc mt f_qc f_mt; rw [cl_tri, n_mt] at eq_tri
  have z_tri : c0.toInt.toNat < 100 → c_tri c0.toInt.toNat = 0 := fun hj => hx_num_z nu_qc cl_tri hj (by omega)
  have hwd := jw mw f_mw; rw [n_mw] at hwd
  have hWK := jr mr f_mr; rw [n_mr, f_m_acts] at hWK
  have hRP := jp mp mn f_mp f_mn; rw [n_mp, n_mn, f_m_acts] at hRP
  have hPL := jl ml f_ml; rw [n_ml, f_m_claims, f_m_acts] at hPL
  have hHC := jh mh f_mh; rw [n_mh, f_m_heardMany, f_m_claims] at hHC
  have hTR := jt mt f_mt; rw [n_mt] at hTR
  have hHF := jf mh m_fou f_mh f_m_fou; rw [n_mh, n_m_fou, f_m_claims] at hHF
  refine lv_aload_n hx hb dL_law_1254 rfl (lv_at hl 2 rfl) ?_
  have hTo := hT
  refine hx_goi (hx_runV (As := []) (rest := []) ⟨hx, hb, hml, hown, hts⟩ hW gx tt_9 (T := TX9) (N := 20) rfl (t_X9_walk_2 l dC dI dA L1 hl1 H.size ax hT gx qw g_qw f_qw ql g_ql f_ql pf_ql) (cwV 0 hts (hx_gV kw_1051 kw_1048 kw_1049 kw_1050 kw_94) rfl rfl rfl (by decide +kernel) ⟨Nat.le_of_ble_eq_true rfl, Nat.le_of_ble_eq_true rfl⟩) rfl hl.1 rfl (Nat.le_of_ble_eq_true rfl) dL_law_1255 ⟨(show CC + 0 ≤ 600000 from by omega), (show SS + 0 ≤ 7302250 from by omega)⟩) hW (fun r_652 L_650 h_651 H locs p_653 hW => ?_)
  obtain ⟨⟨w_655, fw_655, hr_654⟩, hT, hs⟩ := p_653
  have hT : hx_T T_tb L_650 h_651 := hT
  have hs : hx_S T_tb [(8, 0), (8, 1), (39, 0), (41, 0)] L1 hl1 L_650 h_651 := hs
  have f_qa := (hs.o gx trivial rfl).2.trans f_qa
  have f_qp := (hs.o gx trivial rfl).2.trans f_qp
  have f_qc := (hs.o gx trivial rfl).2.trans f_qc
  have f_qh := (hs.o gx trivial rfl).2.trans f_qh
  have f_qw := (hs.o gx trivial rfl).2.trans f_qw
  have f_ql := (hs.o g_qw trivial rfl).2.trans f_ql
  have f_m_now := (hs.o gm trivial rfl).1.trans f_m_now
  have f_m_persons := (hs.o gm trivial rfl).1.trans f_m_persons
  have f_m_claims := (hs.o gm trivial rfl).1.trans f_m_claims
  have f_m_lines := (hs.o gm trivial rfl).1.trans f_m_lines
  have f_m_listed := (hs.o gm trivial rfl).1.trans f_m_listed
  have f_m_acts := (hs.o gm trivial rfl).1.trans f_m_acts
  have f_m_heardMany := (hs.o gm trivial rfl).1.trans f_m_heardMany
  have f_x_now := (hs.o gx trivial rfl).1.trans f_x_now
  have f_x_personCount := (hs.o gx trivial rfl).1.trans f_x_personCount
  have f_x_claimCount := (hs.o gx trivial rfl).1.trans f_x_claimCount
  have f_mw := (hs.o gm trivial rfl).2.trans f_mw
  have f_mr := (hs.o gm trivial rfl).2.trans f_mr
  have f_mp := (hs.o gm trivial rfl).2.trans f_mp
  have f_mn := (hs.o gm trivial rfl).2.trans f_mn
  have f_ml := (hs.o gm trivial rfl).2.trans f_ml
  have f_mh := (hs.o gm trivial rfl).2.trans f_mh
  have f_mt := (hs.o gm trivial rfl).2.trans f_mt
  have f_m_fou := (hs.o gm trivial rfl).2.trans f_m_fou
  have f_qo_ln := (hs.o gx trivial rfl).2.trans f_qo_ln
  have f_o_ln := (hs.o g_qo_ln trivial rfl).1.trans f_o_ln
  have f_m_lst := (hs.o gm trivial rfl).2.trans f_m_lst
  have f_m_dead := (hs.o gm trivial rfl).2.trans f_m_dead
  have f_m_isj := (hs.o gm trivial rfl).2.trans f_m_isj
  have pf_qa : ∀ j : Nat, (j : Int) < (h_651.2.1 ax 6).toInt → h_651.2.2 qa j ≠ none := by
    intro j hj; rw [(hs.o gx trivial rfl).1] at hj; rw [(hs.a g_qa rfl j).2]; exact pf_qa j hj
  have pf_qp : ∀ j : Nat, (j : Int) < (h_651.2.1 ax 8).toInt → h_651.2.2 qp j ≠ none := by
    intro j hj; rw [(hs.o gx trivial rfl).1] at hj; rw [(hs.a g_qp rfl j).2]; exact pf_qp j hj
  have pf_qc : ∀ j : Nat, (j : Int) < (h_651.2.1 ax 11).toInt → h_651.2.2 qc j ≠ none := by
    intro j hj; rw [(hs.o gx trivial rfl).1] at hj; rw [(hs.a g_qc rfl j).2]; exact pf_qc j hj
  have pf_qh : ∀ j : Nat, (j : Int) < (h_651.2.1 ax 13).toInt → h_651.2.2 qh j ≠ none := by
    intro j hj; rw [(hs.o gx trivial rfl).1] at hj; rw [(hs.a g_qh rfl j).2]; exact pf_qh j hj
  have cl_lst : hx_col 8 h_651 ql 0 = c_lst := (hx_col_S hs hTo g_ql tt_40 tt_2 rfl rfl).trans cl_lst
  have cl_dead : hx_col 40 h_651 qp 7 = c_dead := (hx_col_S hs hTo g_qp tt_44 tt_4 rfl rfl).trans cl_dead
  have cl_isj : hx_col 40 h_651 qp 8 = c_isj := (hx_col_S hs hTo g_qp tt_44 tt_4 rfl rfl).trans cl_isj
  have cl_fou : hx_col 100 h_651 qc 10 = c_fou := (hx_col_S hs hTo g_qc tt_45 tt_2 rfl rfl).trans cl_fou
  have cl_tri : hx_col 100 h_651 qc 9 = c_tri := (hx_col_S hs hTo g_qc tt_45 tt_2 rfl rfl).trans cl_tri
  have nu_qp : hx_num 40 h_651 qp 0 (np.toInt) := hx_num_S hs hTo g_qp tt_44 tt_4 rfl rfl nu_qp
  have nu_qc : hx_num 100 h_651 qc 0 (c0.toInt) := hx_num_S hs hTo g_qc tt_45 tt_2 rfl rfl nu_qc
  have sb_list : hx_LQ 8 100 h_651 ql qc := hx_LQ_S hs g_ql g_qc rfl rfl sb_list
  have n_mw : h_651.2.1 mw = F_mw := (funext fun j => (hs.a g_mw rfl j).1).trans n_mw
  have n_mr : h_651.2.1 mr = F_mr := (funext fun j => (hs.a g_mr rfl j).1).trans n_mr
  have n_mp : h_651.2.1 mp = F_mp := (funext fun j => (hs.a g_mp rfl j).1).trans n_mp
  have n_mn : h_651.2.1 mn = F_mn := (funext fun j => (hs.a g_mn rfl j).1).trans n_mn
  have n_ml : h_651.2.1 ml = F_ml := (funext fun j => (hs.a g_ml rfl j).1).trans n_ml
  have n_mh : h_651.2.1 mh = F_mh := (funext fun j => (hs.a g_mh rfl j).1).trans n_mh
  have n_mt : h_651.2.1 mt = F_mt := (funext fun j => (hs.a g_mt rfl j).1).trans n_mt
  have n_m_fou : h_651.2.1 m_fou = F_m_fou := (funext fun j => (hs.a g_m_fou rfl j).1).trans n_m_fou
  have n_lst : h_651.2.1 m_lst = F_lst := (funext fun j => (hs.a g_m_lst rfl j).1).trans n_lst
  have n_dead : h_651.2.1 m_dead = F_dead := (funext fun j => (hs.a g_m_dead rfl j).1).trans n_dead
  have n_isj : h_651.2.1 m_isj = F_isj := (funext fun j => (hs.a g_m_isj rfl j).1).trans n_isj
  have gx := gx.S hs
  have gm := gm.S hs
  have g_qa := g_qa.S hs
  have g_qp := g_qp.S hs
  have g_qc := g_qc.S hs
  have g_qh := g_qh.S hs
  have g_qw := g_qw.S hs
  have g_ql := g_ql.S hs
  have g_mw := g_mw.S hs
  have g_mr := g_mr.S hs
  have g_mp := g_mp.S hs
  have g_mn := g_mn.S hs
  have g_ml := g_ml.S hs
  have g_mh := g_mh.S hs
  have g_mt := g_mt.S hs
  have g_m_fou := g_m_fou.S hs
  have g_qo_ln := g_qo_ln.S hs
  have g_m_lst := g_m_lst.S hs
  have g_m_dead := g_m_dead.S hs
  have g_m_isj := g_m_isj.S hs
  have fw_655 : h_651.2.1 qw 0 = w_655 := fw_655
  have bw_655 := hT.gi g_qw tt_8 (k := 0) rfl
  rw [fw_655] at bw_655
  have bw_655 : 0 ≤ w_655.toInt ∧ w_655.toInt ≤ 8 := bw_655
  refine lv_pop hx hb dL_law_1258 rfl ?_
  refine lv_aload_n hx hb dL_law_1259 rfl (lv_at hl 1 rfl) ?_
  have hTo := hT
  obtain ⟨q_656, fq_656, gq_656⟩ := hx_rf hT gm tt_10 (k := 38) (u := 73) rfl
  obtain ⟨q_657, fq_657, gq_657⟩ := hx_rf hT gm tt_10 (k := 24) (u := 61) rfl
  obtain ⟨q_658, fq_658, gq_658⟩ := hx_rf hT gm tt_10 (k := 25) (u := 62) rfl
  obtain ⟨q_659, fq_659, gq_659⟩ := hx_rf hT gm tt_10 (k := 94) (u := 114) rfl
  obtain ⟨fa_660, nfa_660⟩ : ∃ g : Nat → Int32, h_651.2.1 q_656 = g := ⟨_, rfl⟩
  obtain ⟨fa_661, nfa_661⟩ : ∃ g : Nat → Int32, h_651.2.1 q_657 = g := ⟨_, rfl⟩
  obtain ⟨fa_662, nfa_662⟩ : ∃ g : Nat → Int32, h_651.2.1 q_658 = g := ⟨_, rfl⟩
  obtain ⟨fa_663, nfa_663⟩ : ∃ g : Nat → Int32, h_651.2.1 q_659 = g := ⟨_, rfl⟩
  refine hx_goi (hx_runV (As := []) (rest := []) ⟨hx, hb, hml, hown, hts⟩ hW gm tt_10 (T := TX10) (N := 98) rfl (t_X10_walk l dC dI dA L_650 h_651 H.size am hT gm m_lst g_m_lst f_m_lst q_656 gq_656 fq_656 q_657 gq_657 fq_657 q_658 gq_658 fq_658 q_659 gq_659 fq_659 F_lst n_lst fa_660 nfa_660 fa_661 nfa_661 fa_662 nfa_662 fa_663 nfa_663 lsd f_m_listed) (cwV 0 hts (hx_gV kw_1721 kw_1718 kw_1719 kw_1720 kw_103) rfl rfl rfl (by decide +kernel) ⟨Nat.le_of_ble_eq_true rfl, Nat.le_of_ble_eq_true rfl⟩) rfl hl.1 rfl (Nat.le_of_ble_eq_true rfl) dL_law_1260 ⟨(show CC + 0 + 0 ≤ 600000 from by omega), (show SS + 0 + 0 ≤ 7302250 from by omega)⟩) hW (fun r_666 L_664 h_665 H locs p_667 hW => ?_)
  obtain ⟨⟨w_669, fw_669, hr_668⟩, hT, hs⟩ := p_667
  have hT : hx_T T_tb L_664 h_665 := hT
  have hs : hx_S T_tb [(10, 90), (10, 92), (113, 0), (114, 0)] L_650 h_651 L_664 h_665 := hs
  have f_qa := (hs.o gx trivial rfl).2.trans f_qa
  have f_qp := (hs.o gx trivial rfl).2.trans f_qp
  have f_qc := (hs.o gx trivial rfl).2.trans f_qc
  have f_qh := (hs.o gx trivial rfl).2.trans f_qh
  have f_qw := (hs.o gx trivial rfl).2.trans f_qw
  have f_ql := (hs.o g_qw trivial rfl).2.trans f_ql
  have f_m_now := (hs.o gm trivial rfl).1.trans f_m_now
  have f_m_persons := (hs.o gm trivial rfl).1.trans f_m_persons
  have f_m_claims := (hs.o gm trivial rfl).1.trans f_m_claims
  have f_m_lines := (hs.o gm trivial rfl).1.trans f_m_lines
  have f_m_acts := (hs.o gm trivial rfl).1.trans f_m_acts
  have f_m_heardMany := (hs.o gm trivial rfl).1.trans f_m_heardMany
  have f_x_now := (hs.o gx trivial rfl).1.trans f_x_now
  have f_x_personCount := (hs.o gx trivial rfl).1.trans f_x_personCount
  have f_x_claimCount := (hs.o gx trivial rfl).1.trans f_x_claimCount
  have f_mw := (hs.o gm trivial rfl).2.trans f_mw
  have f_mr := (hs.o gm trivial rfl).2.trans f_mr
  have f_mp := (hs.o gm trivial rfl).2.trans f_mp
  have f_mn := (hs.o gm trivial rfl).2.trans f_mn
  have f_ml := (hs.o gm trivial rfl).2.trans f_ml
  have f_mh := (hs.o gm trivial rfl).2.trans f_mh
  have f_mt := (hs.o gm trivial rfl).2.trans f_mt
  have f_m_fou := (hs.o gm trivial rfl).2.trans f_m_fou
  have f_qo_ln := (hs.o gx trivial rfl).2.trans f_qo_ln
  have f_o_ln := (hs.o g_qo_ln trivial rfl).1.trans f_o_ln
  have f_m_lst := (hs.o gm trivial rfl).2.trans f_m_lst
  have f_m_dead := (hs.o gm trivial rfl).2.trans f_m_dead
  have f_m_isj := (hs.o gm trivial rfl).2.trans f_m_isj
  have fw_655 := (hs.o g_qw trivial rfl).1.trans fw_655
  have fq_656 := (hs.o gm trivial rfl).2.trans fq_656
  have fq_657 := (hs.o gm trivial rfl).2.trans fq_657
  have fq_658 := (hs.o gm trivial rfl).2.trans fq_658
  have fq_659 := (hs.o gm trivial rfl).2.trans fq_659
  have pf_qa : ∀ j : Nat, (j : Int) < (h_665.2.1 ax 6).toInt → h_665.2.2 qa j ≠ none := by
    intro j hj; rw [(hs.o gx trivial rfl).1] at hj; rw [(hs.a g_qa rfl j).2]; exact pf_qa j hj
  have pf_qp : ∀ j : Nat, (j : Int) < (h_665.2.1 ax 8).toInt → h_665.2.2 qp j ≠ none := by
    intro j hj; rw [(hs.o gx trivial rfl).1] at hj; rw [(hs.a g_qp rfl j).2]; exact pf_qp j hj
  have pf_qc : ∀ j : Nat, (j : Int) < (h_665.2.1 ax 11).toInt → h_665.2.2 qc j ≠ none := by
    intro j hj; rw [(hs.o gx trivial rfl).1] at hj; rw [(hs.a g_qc rfl j).2]; exact pf_qc j hj
  have pf_qh : ∀ j : Nat, (j : Int) < (h_665.2.1 ax 13).toInt → h_665.2.2 qh j ≠ none := by
    intro j hj; rw [(hs.o gx trivial rfl).1] at hj; rw [(hs.a g_qh rfl j).2]; exact pf_qh j hj
  have cl_lst : hx_col 8 h_665 ql 0 = c_lst := (hx_col_S hs hTo g_ql tt_40 tt_2 rfl rfl).trans cl_lst
  have cl_dead : hx_col 40 h_665 qp 7 = c_dead := (hx_col_S hs hTo g_qp tt_44 tt_4 rfl rfl).trans cl_dead
  have cl_isj : hx_col 40 h_665 qp 8 = c_isj := (hx_col_S hs hTo g_qp tt_44 tt_4 rfl rfl).trans cl_isj
  have cl_fou : hx_col 100 h_665 qc 10 = c_fou := (hx_col_S hs hTo g_qc tt_45 tt_2 rfl rfl).trans cl_fou
  have cl_tri : hx_col 100 h_665 qc 9 = c_tri := (hx_col_S hs hTo g_qc tt_45 tt_2 rfl rfl).trans cl_tri
  have nu_qp : hx_num 40 h_665 qp 0 (np.toInt) := hx_num_S hs hTo g_qp tt_44 tt_4 rfl rfl nu_qp
  have nu_qc : hx_num 100 h_665 qc 0 (c0.toInt) := hx_num_S hs hTo g_qc tt_45 tt_2 rfl rfl nu_qc
  have sb_list : hx_LQ 8 100 h_665 ql qc := hx_LQ_S hs g_ql g_qc rfl rfl sb_list
  have n_mw : h_665.2.1 mw = F_mw := (funext fun j => (hs.a g_mw rfl j).1).trans n_mw
  have n_mr : h_665.2.1 mr = F_mr := (funext fun j => (hs.a g_mr rfl j).1).trans n_mr
  have n_mp : h_665.2.1 mp = F_mp := (funext fun j => (hs.a g_mp rfl j).1).trans n_mp
  have n_mn : h_665.2.1 mn = F_mn := (funext fun j => (hs.a g_mn rfl j).1).trans n_mn
  have n_ml : h_665.2.1 ml = F_ml := (funext fun j => (hs.a g_ml rfl j).1).trans n_ml
  have n_mh : h_665.2.1 mh = F_mh := (funext fun j => (hs.a g_mh rfl j).1).trans n_mh
  have n_mt : h_665.2.1 mt = F_mt := (funext fun j => (hs.a g_mt rfl j).1).trans n_mt
  have n_m_fou : h_665.2.1 m_fou = F_m_fou := (funext fun j => (hs.a g_m_fou rfl j).1).trans n_m_fou
  have n_lst : h_665.2.1 m_lst = F_lst := (funext fun j => (hs.a g_m_lst rfl j).1).trans n_lst
  have n_dead : h_665.2.1 m_dead = F_dead := (funext fun j => (hs.a g_m_dead rfl j).1).trans n_dead
  have n_isj : h_665.2.1 m_isj = F_isj := (funext fun j => (hs.a g_m_isj rfl j).1).trans n_isj
  have nfa_660 : h_665.2.1 q_656 = fa_660 := (funext fun j => (hs.a gq_656 rfl j).1).trans nfa_660
  have nfa_661 : h_665.2.1 q_657 = fa_661 := (funext fun j => (hs.a gq_657 rfl j).1).trans nfa_661
  have nfa_662 : h_665.2.1 q_658 = fa_662 := (funext fun j => (hs.a gq_658 rfl j).1).trans nfa_662
  have gx := gx.S hs
  have gm := gm.S hs
  have g_qa := g_qa.S hs
  have g_qp := g_qp.S hs
  have g_qc := g_qc.S hs
  have g_qh := g_qh.S hs
  have g_qw := g_qw.S hs
  have g_ql := g_ql.S hs
  have g_mw := g_mw.S hs
  have g_mr := g_mr.S hs
  have g_mp := g_mp.S hs
  have g_mn := g_mn.S hs
  have g_ml := g_ml.S hs
  have g_mh := g_mh.S hs
  have g_mt := g_mt.S hs
  have g_m_fou := g_m_fou.S hs
  have g_qo_ln := g_qo_ln.S hs
  have g_m_lst := g_m_lst.S hs
  have g_m_dead := g_m_dead.S hs
  have g_m_isj := g_m_isj.S hs
  have gq_656 := gq_656.S hs
  have gq_657 := gq_657.S hs
  have gq_658 := gq_658.S hs
  have gq_659 := gq_659.S hs
  have fw_669 : h_665.2.1 am 90 = w_669 := fw_669
  have bw_669 := hT.gi gm tt_10 (k := 90) rfl
  rw [fw_669] at bw_669
  have bw_669 : 0 ≤ w_669.toInt ∧ w_669.toInt ≤ 8 := bw_669
  refine lv_pop hx hb dL_law_1263 rfl ?_
  refine lv_goto (tgt := 1379) hx hb dL_law_1264 (by decide) ?_
  have pfw : ∀ j : Nat, (j : Int) < (h_665.2.1 qw 0).toInt → h_665.2.2 ql j ≠ none := hx_pf1 fw_655 hr_654
  have hq_lsd : w_655 = w_669 := Int32.toInt_inj.mp (hr_654.trans hr_668.symm)
  refine W.widen (k := CC + 3) (n := SS + 179) (by omega) (by omega) ?_
  exact kk L_664 h_665 H locs ls hW ⟨hT, gx, gm, ⟨f_x_now.trans f_m_now.symm, f_x_personCount.trans f_m_persons.symm, f_x_claimCount.trans f_m_claims.symm, hx_ob f_qo_ln (f_o_ln.trans f_m_lines.symm), hx_ob f_qw ((fw_655.trans hq_lsd).trans fw_669.symm), hx_ob f_qp (by rw [f_x_personCount]; exact nu_qp), hx_ob f_qc (by rw [f_x_claimCount]; exact nu_qc), (fun w q c hw hq hc => by obtain rfl : qw = w := Option.some.inj (f_qw.symm.trans hw); obtain rfl : ql = q := Option.some.inj (f_ql.symm.trans hq); obtain rfl : qc = c := Option.some.inj (f_qc.symm.trans hc); exact sb_list), (fun w q r hw hq hr => by obtain rfl : qw = w := Option.some.inj (f_qw.symm.trans hw); obtain rfl : ql = q := Option.some.inj (f_ql.symm.trans hq); obtain rfl : m_lst = r := Option.some.inj (f_m_lst.symm.trans hr); rw [cl_lst, n_lst]; exact eq_lst), hx_ob2 f_qp f_m_dead (by rw [cl_dead, n_dead]; exact eq_dead), hx_ob2 f_qp f_m_isj (by rw [cl_isj, n_isj]; exact eq_isj), hx_ob2 f_qc f_m_fou (by rw [cl_fou, n_m_fou]; exact eq_fou), hx_ob2 f_qc f_mt (by rw [cl_tri, n_mt]; exact eq_tri), trivial⟩, ⟨hx_ob f_qa pf_qa, hx_ob f_qp pf_qp, hx_ob f_qc pf_qc, hx_ob f_qh pf_qh, (fun w q hw hq => by obtain rfl : qw = w := Option.some.inj (f_qw.symm.trans hw); obtain rfl : ql = q := Option.some.inj (f_ql.symm.trans hq); exact pfw)⟩, ⟨hx_ob f_mw (by rw [n_mw]; exact hwd), hx_ob f_mr (by rw [n_mr, f_m_acts]; exact hWK), hx_ob2 f_mp f_mn (by rw [n_mp, n_mn, f_m_acts]; exact hRP), hx_ob f_ml (by rw [n_ml, f_m_claims, f_m_acts]; exact hPL), hx_ob f_mh (by rw [n_mh, f_m_heardMany, f_m_claims]; exact hHC), hx_ob f_mt (by rw [n_mt]; exact (hx_TR_le hTR (by omega))), hx_ob2 f_mh f_m_fou (by rw [n_mh, n_m_fou, f_m_claims]; exact hHF)⟩⟩ hl

set_option maxHeartbeats 4000000 in
set_option maxRecDepth 100000 in
theorem law_case_27 {p : Program} {e : Env} {s : State} {m : MethodId} {below : List Frame} {meth : Method} {c : Code} (l : Launch) {b LN : Nat} {xs : Nat → Int32} (hx : p.tables.exec = Jvm.exec) (hb : c.code = code) (hr : meth.sig.returnType = ret) (hlocks : meth.locks = false) (hml : c.maxLocals = 4) (hown : s.vm.findClass "SmallCourtLaw" = some m.cls) (hts : ∀ w ∈ hx_all, w.before #[Value.ref b] s = true) (hX : va_X b LN xs s s.heap) (hbl : b < s.heap.size) (hbA : ¬ s.heap.size ≤ b) (hLN : LN ≤ 3584) (dC : Nat → ClassId) (dI : Nat → Nat → Nat) (dA : Nat → ClassId) (b0 : hx_z) (ax am : Nat) (T1 : Int) (hT0 : 0 ≤ T1) (hT1 : T1 ≤ 511) (i : Int32) (hi0 : 0 ≤ i.toInt) (hiL : i.toInt + 7 ≤ LN) (CC SS : Nat) (hCC : CC + 3 ≤ 600000) (hSS : SS + 179 ≤ 7302250) (L1 : List Nat) (hl1 : hx_h) (H : Heap) (locs : List Loc) (ls : Array Slot) (hW : hx_W T_tb (P_ty dA) (dC, dI) vwCl (fun q : Nat => s.heap.size ≤ q) s.heap L1 hl1 s H locs) (hZ : hx_Xt (fun q : Nat => s.heap.size ≤ q) b0 s) (hI : hx_IV T1 ax am L1 hl1) (hl : lv_has ls 4 [(3, .int i), (2, .ref am), (1, .ref ax), (0, .ref b)]) (kk : ∀ (L2 : List Nat) (h2 : hx_h) (H2 : Heap) (locs2 : List Loc) (ls2 : Array Slot), hx_W T_tb (P_ty dA) (dC, dI) vwCl (fun q : Nat => s.heap.size ≤ q) s.heap L2 h2 s H2 locs2 → hx_IV (T1 + 1) ax am L2 h2 → lv_has ls2 4 [(3, .int i), (2, .ref am), (1, .ref ax), (0, .ref b)] → W p l e room_1 s m #[Value.ref b] below meth c H2 locs2 (CC + 3) (SS + 179) (lw_Z below #[Value.ref b] s) (F0 m 1379 ls2 [])) : W p l e room_1 s m #[Value.ref b] below meth c H locs CC SS (lw_Z below #[Value.ref b] s) (F0 m 1267 ls []) := by
  obtain ⟨hT, gx, gm, ⟨he_nw, he_np, he_c0, ho_ln, ho_lsd, hn_qp, hn_qc, hLQ, hLE, hc_dead, hc_isj, hc_fou, hc_tri, -⟩, ⟨ia, ip, ic, ih, il⟩, ⟨jw, jr, jp, jl, jh, jt, jf⟩⟩ := hI
  obtain ⟨qa, f_qa, g_qa⟩ := hx_rf hT gx tt_9 (k := 5) (u := 43) rfl
  have pf_qa := ia qa f_qa
  obtain ⟨qp, f_qp, g_qp⟩ := hx_rf hT gx tt_9 (k := 7) (u := 44) rfl
  have pf_qp := ip qp f_qp
  obtain ⟨qc, f_qc, g_qc⟩ := hx_rf hT gx tt_9 (k := 10) (u := 45) rfl
  have pf_qc := ic qc f_qc
  obtain ⟨qh, f_qh, g_qh⟩ := hx_rf hT gx tt_9 (k := 12) (u := 46) rfl
  have pf_qh := ih qh f_qh
  obtain ⟨qw, f_qw, g_qw⟩ := hx_rf hT gx tt_9 (k := 19) (u := 8) rfl
  obtain ⟨ql, f_ql, g_ql⟩ := hx_rf hT g_qw tt_8 (k := 3) (u := 40) rfl
  have pf_ql := il qw ql f_qw f_ql
  obtain ⟨nw, f_m_now⟩ : ∃ y : Int32, hl1.2.1 am 0 = y := ⟨_, rfl⟩
  have b_nw := hT.gi gm tt_10 (k := 0) rfl
  rw [f_m_now] at b_nw
  have b_nw : 0 ≤ nw.toInt ∧ nw.toInt ≤ 7999 := b_nw
  obtain ⟨np, f_m_persons⟩ : ∃ y : Int32, hl1.2.1 am 20 = y := ⟨_, rfl⟩
  have b_np := hT.gi gm tt_10 (k := 20) rfl
  rw [f_m_persons] at b_np
  have b_np : 0 ≤ np.toInt ∧ np.toInt ≤ 40 := b_np
  obtain ⟨c0, f_m_claims⟩ : ∃ y : Int32, hl1.2.1 am 36 = y := ⟨_, rfl⟩
  have b_c0 := hT.gi gm tt_10 (k := 36) rfl
  rw [f_m_claims] at b_c0
  have b_c0 : 0 ≤ c0.toInt ∧ c0.toInt ≤ 100 := b_c0
  obtain ⟨ln, f_m_lines⟩ : ∃ y : Int32, hl1.2.1 am 29 = y := ⟨_, rfl⟩
  have b_ln := hT.gi gm tt_10 (k := 29) rfl
  rw [f_m_lines] at b_ln
  have b_ln : 0 ≤ ln.toInt ∧ ln.toInt ≤ 400 := b_ln
  obtain ⟨lsd, f_m_listed⟩ : ∃ y : Int32, hl1.2.1 am 90 = y := ⟨_, rfl⟩
  have b_lsd := hT.gi gm tt_10 (k := 90) rfl
  rw [f_m_listed] at b_lsd
  have b_lsd : 0 ≤ lsd.toInt ∧ lsd.toInt ≤ 8 := b_lsd
  obtain ⟨a0, f_m_acts⟩ : ∃ y : Int32, hl1.2.1 am 1 = y := ⟨_, rfl⟩
  have b_a0 := hT.gi gm tt_10 (k := 1) rfl
  rw [f_m_acts] at b_a0
  have b_a0 : 0 ≤ a0.toInt ∧ a0.toInt ≤ 8 := b_a0
  obtain ⟨m0, f_m_heardMany⟩ : ∃ y : Int32, hl1.2.1 am 57 = y := ⟨_, rfl⟩
  have b_m0 := hT.gi gm tt_10 (k := 57) rfl
  rw [f_m_heardMany] at b_m0
  have b_m0 : 0 ≤ m0.toInt ∧ m0.toInt ≤ 100 := b_m0
  have f_x_now : hl1.2.1 ax 2 = nw := he_nw.trans f_m_now
  have f_x_personCount : hl1.2.1 ax 8 = np := he_np.trans f_m_persons
  have f_x_claimCount : hl1.2.1 ax 11 = c0 := he_c0.trans f_m_claims
  obtain ⟨mw, f_mw, g_mw⟩ := hx_rf hT gm tt_10 (k := 19) (u := 57) rfl
  obtain ⟨F_mw, n_mw⟩ : ∃ g : Nat → Int32, hl1.2.1 mw = g := ⟨_, rfl⟩
  obtain ⟨mr, f_mr, g_mr⟩ := hx_rf hT gm tt_10 (k := 3) (u := 50) rfl
  obtain ⟨F_mr, n_mr⟩ : ∃ g : Nat → Int32, hl1.2.1 mr = g := ⟨_, rfl⟩
  obtain ⟨mp, f_mp, g_mp⟩ := hx_rf hT gm tt_10 (k := 5) (u := 52) rfl
  obtain ⟨F_mp, n_mp⟩ : ∃ g : Nat → Int32, hl1.2.1 mp = g := ⟨_, rfl⟩
  obtain ⟨mn, f_mn, g_mn⟩ := hx_rf hT gm tt_10 (k := 4) (u := 51) rfl
  obtain ⟨F_mn, n_mn⟩ : ∃ g : Nat → Int32, hl1.2.1 mn = g := ⟨_, rfl⟩
  obtain ⟨ml, f_ml, g_ml⟩ := hx_rf hT gm tt_10 (k := 44) (u := 79) rfl
  obtain ⟨F_ml, n_ml⟩ : ∃ g : Nat → Int32, hl1.2.1 ml = g := ⟨_, rfl⟩
  obtain ⟨mh, f_mh, g_mh⟩ := hx_rf hT gm tt_10 (k := 47) (u := 82) rfl
  obtain ⟨F_mh, n_mh⟩ : ∃ g : Nat → Int32, hl1.2.1 mh = g := ⟨_, rfl⟩
  obtain ⟨mt, f_mt, g_mt⟩ := hx_rf hT gm tt_10 (k := 45) (u := 80) rfl
  obtain ⟨F_mt, n_mt⟩ : ∃ g : Nat → Int32, hl1.2.1 mt = g := ⟨_, rfl⟩
  obtain ⟨m_fou, f_m_fou, g_m_fou⟩ := hx_rf hT gm tt_10 (k := 46) (u := 81) rfl
  obtain ⟨F_m_fou, n_m_fou⟩ : ∃ g : Nat → Int32, hl1.2.1 m_fou = g := ⟨_, rfl⟩
  obtain ⟨qo_ln, f_qo_ln, g_qo_ln⟩ := hx_rf hT gx tt_9 (k := 9) (u := 1) rfl
  have f_o_ln : hl1.2.1 qo_ln 0 = ln := (ho_ln qo_ln f_qo_ln).trans f_m_lines
  have f_o_lsd : hl1.2.1 qw 0 = lsd := (ho_lsd qw f_qw).trans f_m_listed
  have nu_qp := hn_qp qp f_qp; rw [f_x_personCount] at nu_qp
  have nu_qc := hn_qc qc f_qc; rw [f_x_claimCount] at nu_qc
  have sb_list := hLQ qw ql qc f_qw f_ql f_qc
  obtain ⟨m_lst, f_m_lst, g_m_lst⟩ := hx_rf hT gm tt_10 (k := 91) (u := 112) rfl
  obtain ⟨F_lst, n_lst⟩ : ∃ g : Nat → Int32, hl1.2.1 m_lst = g := ⟨_, rfl⟩
  obtain ⟨c_lst, cl_lst⟩ : ∃ g : Nat → Int32, hx_col 8 hl1 ql 0 = g := ⟨_, rfl⟩
  have eq_lst := hLE qw ql m_lst f_qw f_ql f_m_lst; rw [cl_lst, n_lst] at eq_lst
  obtain ⟨c_dead, cl_dead⟩ : ∃ g : Nat → Int32, hx_col 40 hl1 qp 7 = g := ⟨_, rfl⟩
  obtain ⟨m_dead, f_m_dead, g_m_dead⟩ := hx_rf hT gm tt_10 (k := 27) (u := 64) rfl
  obtain ⟨F_dead, n_dead⟩ : ∃ g : Nat → Int32, hl1.2.1 m_dead = g := ⟨_, rfl⟩
  have eq_dead := hc_dead qp m_dead f_qp f_m_dead; rw [cl_dead, n_dead] at eq_dead
  have z_dead : np.toInt.toNat < 40 → c_dead np.toInt.toNat = 0 := fun hj => hx_num_z nu_qp cl_dead hj (by omega)
  obtain ⟨c_isj, cl_isj⟩ : ∃ g : Nat → Int32, hx_col 40 hl1 qp 8 = g := ⟨_, rfl⟩
  obtain ⟨m_isj, f_m_isj, g_m_isj⟩ := hx_rf hT gm tt_10 (k := 28) (u := 65) rfl
  obtain ⟨F_isj, n_isj⟩ : ∃ g : Nat → Int32, hl1.2.1 m_isj = g := ⟨_, rfl⟩
  have eq_isj := hc_isj qp m_isj f_qp f_m_isj; rw [cl_isj, n_isj] at eq_isj
  have z_isj : np.toInt.toNat < 40 → c_isj np.toInt.toNat = 0 := fun hj => hx_num_z nu_qp cl_isj hj (by omega)
  obtain ⟨c_fou, cl_fou⟩ : ∃ g : Nat → Int32, hx_col 100 hl1 qc 10 = g := ⟨_, rfl⟩
  have eq_fou := hc_fou qc m_fou f_qc f_m_fou; rw [cl_fou, n_m_fou] at eq_fou
  have z_fou : c0.toInt.toNat < 100 → c_fou c0.toInt.toNat = 0 := fun hj => hx_num_z nu_qc cl_fou hj (by omega)
  obtain ⟨c_tri, cl_tri⟩ : ∃ g : Nat → Int32, hx_col 100 hl1 qc 9 = g := ⟨_, rfl⟩
  have eq_tri := hc_tri qc mt f_qc f_mt; rw [cl_tri, n_mt] at eq_tri
  have z_tri : c0.toInt.toNat < 100 → c_tri c0.toInt.toNat = 0 := fun hj => hx_num_z nu_qc cl_tri hj (by omega)
  have hwd := jw mw f_mw; rw [n_mw] at hwd
  have hWK := jr mr f_mr; rw [n_mr, f_m_acts] at hWK
  have hRP := jp mp mn f_mp f_mn; rw [n_mp, n_mn, f_m_acts] at hRP
  have hPL := jl ml f_ml; rw [n_ml, f_m_claims, f_m_acts] at hPL
  have hHC := jh mh f_mh; rw [n_mh, f_m_heardMany, f_m_claims] at hHC
  have hTR := jt mt f_mt; rw [n_mt] at hTR
  have hHF := jf mh m_fou f_mh f_m_fou; rw [n_mh, n_m_fou, f_m_claims] at hHF
  refine lv_aload_n hx hb dL_law_1267 rfl (lv_at hl 2 rfl) ?_
  refine lv_aload_n hx hb dL_law_1268 rfl (lv_at hl 3 rfl) ?_
  refine lv_iload_n hx hb dL_law_1269 rfl (lv_at hl 0 rfl) ?_
  refine lv_iconst (v := 1) hx hb dL_law_1270 (by decide) ?_
  refine lv_iadd hx hb dL_law_1271 ?_
  have rg_670 := i32_r i
  refine lv_topi (fun x_671 ex_671 => ?_)
  have zx_671 : x_671.toInt = i.toInt + 1 := by rw [ex_671]; exact i32_add rfl (by decide) (by omega) (by omega)
  refine va_sld hx hb hX hbl hbA hW.2.2.2.1 (vp_in_iff.mpr ⟨by omega, by omega⟩) dL_law_1272 ?_
  refine lv_topi (fun x_672 ex_672 => ?_)
  have hTo := hT
  refine hx_goi (hx_runV (As := [.int x_672]) (rest := []) ⟨hx, hb, hml, hown, hts⟩ hW gx tt_9 (T := TX9) (N := 20) rfl (t_X9_walked l dC dI dA L1 hl1 H.size ax x_672 hT gx) (cwV 1 hts (hx_gV kw_1088 kw_1085 kw_1086 kw_1087 kw_94) rfl rfl rfl (by decide +kernel) ⟨Nat.le_of_ble_eq_true rfl, Nat.le_of_ble_eq_true rfl⟩) rfl hl.1 rfl (Nat.le_of_ble_eq_true rfl) dL_law_1273 ⟨(show CC + 0 ≤ 600000 from by omega), (show SS + 0 ≤ 7302250 from by omega)⟩) hW (fun r_675 L_673 h_674 H locs p_676 hW => ?_)
  obtain ⟨hr_677, hT, hs⟩ := p_676
  have hT : hx_T T_tb L_673 h_674 := hT
  have hs : hx_S T_tb [] L1 hl1 L_673 h_674 := hs
  have f_qa := (hs.o gx trivial rfl).2.trans f_qa
  have f_qp := (hs.o gx trivial rfl).2.trans f_qp
  have f_qc := (hs.o gx trivial rfl).2.trans f_qc
  have f_qh := (hs.o gx trivial rfl).2.trans f_qh
  have f_qw := (hs.o gx trivial rfl).2.trans f_qw
  have f_ql := (hs.o g_qw trivial rfl).2.trans f_ql
  have f_m_now := (hs.o gm trivial rfl).1.trans f_m_now
  have f_m_persons := (hs.o gm trivial rfl).1.trans f_m_persons
  have f_m_claims := (hs.o gm trivial rfl).1.trans f_m_claims
  have f_m_lines := (hs.o gm trivial rfl).1.trans f_m_lines
  have f_m_listed := (hs.o gm trivial rfl).1.trans f_m_listed
  have f_m_acts := (hs.o gm trivial rfl).1.trans f_m_acts
  have f_m_heardMany := (hs.o gm trivial rfl).1.trans f_m_heardMany
  have f_x_now := (hs.o gx trivial rfl).1.trans f_x_now
  have f_x_personCount := (hs.o gx trivial rfl).1.trans f_x_personCount
  have f_x_claimCount := (hs.o gx trivial rfl).1.trans f_x_claimCount
  have f_mw := (hs.o gm trivial rfl).2.trans f_mw
  have f_mr := (hs.o gm trivial rfl).2.trans f_mr
  have f_mp := (hs.o gm trivial rfl).2.trans f_mp
  have f_mn := (hs.o gm trivial rfl).2.trans f_mn
  have f_ml := (hs.o gm trivial rfl).2.trans f_ml
  have f_mh := (hs.o gm trivial rfl).2.trans f_mh
  have f_mt := (hs.o gm trivial rfl).2.trans f_mt
  have f_m_fou := (hs.o gm trivial rfl).2.trans f_m_fou
  have f_qo_ln := (hs.o gx trivial rfl).2.trans f_qo_ln
  have f_o_ln := (hs.o g_qo_ln trivial rfl).1.trans f_o_ln
  have f_o_lsd := (hs.o g_qw trivial rfl).1.trans f_o_lsd
  have f_m_lst := (hs.o gm trivial rfl).2.trans f_m_lst
  have f_m_dead := (hs.o gm trivial rfl).2.trans f_m_dead
  have f_m_isj := (hs.o gm trivial rfl).2.trans f_m_isj
  have pf_qa : ∀ j : Nat, (j : Int) < (h_674.2.1 ax 6).toInt → h_674.2.2 qa j ≠ none := by
    intro j hj; rw [(hs.o gx trivial rfl).1] at hj; rw [(hs.a g_qa rfl j).2]; exact pf_qa j hj
  have pf_qp : ∀ j : Nat, (j : Int) < (h_674.2.1 ax 8).toInt → h_674.2.2 qp j ≠ none := by
    intro j hj; rw [(hs.o gx trivial rfl).1] at hj; rw [(hs.a g_qp rfl j).2]; exact pf_qp j hj
  have pf_qc : ∀ j : Nat, (j : Int) < (h_674.2.1 ax 11).toInt → h_674.2.2 qc j ≠ none := by
    intro j hj; rw [(hs.o gx trivial rfl).1] at hj; rw [(hs.a g_qc rfl j).2]; exact pf_qc j hj
  have pf_qh : ∀ j : Nat, (j : Int) < (h_674.2.1 ax 13).toInt → h_674.2.2 qh j ≠ none := by
    intro j hj; rw [(hs.o gx trivial rfl).1] at hj; rw [(hs.a g_qh rfl j).2]; exact pf_qh j hj
  have pf_ql : ∀ j : Nat, (j : Int) < (h_674.2.1 qw 0).toInt → h_674.2.2 ql j ≠ none := by
    intro j hj; rw [(hs.o g_qw trivial rfl).1] at hj; rw [(hs.a g_ql rfl j).2]; exact pf_ql j hj
  have cl_lst : hx_col 8 h_674 ql 0 = c_lst := (hx_col_S hs hTo g_ql tt_40 tt_2 rfl rfl).trans cl_lst
  have cl_dead : hx_col 40 h_674 qp 7 = c_dead := (hx_col_S hs hTo g_qp tt_44 tt_4 rfl rfl).trans cl_dead
  have cl_isj : hx_col 40 h_674 qp 8 = c_isj := (hx_col_S hs hTo g_qp tt_44 tt_4 rfl rfl).trans cl_isj
  have cl_fou : hx_col 100 h_674 qc 10 = c_fou := (hx_col_S hs hTo g_qc tt_45 tt_2 rfl rfl).trans cl_fou
  have cl_tri : hx_col 100 h_674 qc 9 = c_tri := (hx_col_S hs hTo g_qc tt_45 tt_2 rfl rfl).trans cl_tri
  have nu_qp : hx_num 40 h_674 qp 0 (np.toInt) := hx_num_S hs hTo g_qp tt_44 tt_4 rfl rfl nu_qp
  have nu_qc : hx_num 100 h_674 qc 0 (c0.toInt) := hx_num_S hs hTo g_qc tt_45 tt_2 rfl rfl nu_qc
  have sb_list : hx_LQ 8 100 h_674 ql qc := hx_LQ_S hs g_ql g_qc rfl rfl sb_list
  have n_mw : h_674.2.1 mw = F_mw := (funext fun j => (hs.a g_mw rfl j).1).trans n_mw
  have n_mr : h_674.2.1 mr = F_mr := (funext fun j => (hs.a g_mr rfl j).1).trans n_mr
  have n_mp : h_674.2.1 mp = F_mp := (funext fun j => (hs.a g_mp rfl j).1).trans n_mp
  have n_mn : h_674.2.1 mn = F_mn := (funext fun j => (hs.a g_mn rfl j).1).trans n_mn
  have n_ml : h_674.2.1 ml = F_ml := (funext fun j => (hs.a g_ml rfl j).1).trans n_ml
  have n_mh : h_674.2.1 mh = F_mh := (funext fun j => (hs.a g_mh rfl j).1).trans n_mh
  have n_mt : h_674.2.1 mt = F_mt := (funext fun j => (hs.a g_mt rfl j).1).trans n_mt
  have n_m_fou : h_674.2.1 m_fou = F_m_fou := (funext fun j => (hs.a g_m_fou rfl j).1).trans n_m_fou
  have n_lst : h_674.2.1 m_lst = F_lst := (funext fun j => (hs.a g_m_lst rfl j).1).trans n_lst
  have n_dead : h_674.2.1 m_dead = F_dead := (funext fun j => (hs.a g_m_dead rfl j).1).trans n_dead
  have n_isj : h_674.2.1 m_isj = F_isj := (funext fun j => (hs.a g_m_isj rfl j).1).trans n_isj
  have gx := gx.S hs
  have gm := gm.S hs
  have g_qa := g_qa.S hs
  have g_qp := g_qp.S hs
  have g_qc := g_qc.S hs
  have g_qh := g_qh.S hs
  have g_qw := g_qw.S hs
  have g_ql := g_ql.S hs
  have g_mw := g_mw.S hs
  have g_mr := g_mr.S hs
  have g_mp := g_mp.S hs
  have g_mn := g_mn.S hs
  have g_ml := g_ml.S hs
  have g_mh := g_mh.S hs
  have g_mt := g_mt.S hs
  have g_m_fou := g_m_fou.S hs
  have g_qo_ln := g_qo_ln.S hs
  have g_m_lst := g_m_lst.S hs
  have g_m_dead := g_m_dead.S hs
  have g_m_isj := g_m_isj.S hs
  refine lv_pop hx hb dL_law_1276 rfl ?_
  refine lv_aload_n hx hb dL_law_1277 rfl (lv_at hl 1 rfl) ?_
  refine lv_aload_n hx hb dL_law_1278 rfl (lv_at hl 3 rfl) ?_
  refine lv_iload_n hx hb dL_law_1279 rfl (lv_at hl 0 rfl) ?_
  refine lv_iconst (v := 1) hx hb dL_law_1280 (by decide) ?_
  refine lv_iadd hx hb dL_law_1281 ?_
  refine lv_topi (fun x_678 ex_678 => ?_)
  have zx_678 : x_678.toInt = i.toInt + 1 := by rw [ex_678]; exact i32_add rfl (by decide) (by omega) (by omega)
  obtain rfl : x_671 = x_678 := ex_671.trans ex_678.symm
  refine va_sld hx hb hX hbl hbA hW.2.2.2.1 (vp_in_iff.mpr ⟨by omega, by omega⟩) dL_law_1282 ?_
  refine lv_topi (fun x_679 ex_679 => ?_)
  obtain rfl : x_672 = x_679 := ex_672.trans ex_679.symm
  have hTo := hT
  refine hx_goi (hx_runV (As := [.int x_672]) (rest := []) ⟨hx, hb, hml, hown, hts⟩ hW gm tt_10 (T := TX10) (N := 98) rfl (t_X10_walked l dC dI dA L_673 h_674 H.size am x_672 hT gm) (cwV 1 hts (hx_gV kw_1732 kw_1729 kw_1730 kw_1731 kw_103) rfl rfl rfl (by decide +kernel) ⟨Nat.le_of_ble_eq_true rfl, Nat.le_of_ble_eq_true rfl⟩) rfl hl.1 rfl (Nat.le_of_ble_eq_true rfl) dL_law_1283 ⟨(show CC + 0 + 0 ≤ 600000 from by omega), (show SS + 0 + 0 ≤ 7302250 from by omega)⟩) hW (fun r_682 L_680 h_681 H locs p_683 hW => ?_)
  obtain ⟨hr_684, hT, hs⟩ := p_683
  have hT : hx_T T_tb L_680 h_681 := hT
  have hs : hx_S T_tb [] L_673 h_674 L_680 h_681 := hs
  have f_qa := (hs.o gx trivial rfl).2.trans f_qa
  have f_qp := (hs.o gx trivial rfl).2.trans f_qp
  have f_qc := (hs.o gx trivial rfl).2.trans f_qc
  have f_qh := (hs.o gx trivial rfl).2.trans f_qh
  have f_qw := (hs.o gx trivial rfl).2.trans f_qw
  have f_ql := (hs.o g_qw trivial rfl).2.trans f_ql
  have f_m_now := (hs.o gm trivial rfl).1.trans f_m_now
  have f_m_persons := (hs.o gm trivial rfl).1.trans f_m_persons
  have f_m_claims := (hs.o gm trivial rfl).1.trans f_m_claims
  have f_m_lines := (hs.o gm trivial rfl).1.trans f_m_lines
  have f_m_listed := (hs.o gm trivial rfl).1.trans f_m_listed
  have f_m_acts := (hs.o gm trivial rfl).1.trans f_m_acts
  have f_m_heardMany := (hs.o gm trivial rfl).1.trans f_m_heardMany
  have f_x_now := (hs.o gx trivial rfl).1.trans f_x_now
  have f_x_personCount := (hs.o gx trivial rfl).1.trans f_x_personCount
  have f_x_claimCount := (hs.o gx trivial rfl).1.trans f_x_claimCount
  have f_mw := (hs.o gm trivial rfl).2.trans f_mw
  have f_mr := (hs.o gm trivial rfl).2.trans f_mr
  have f_mp := (hs.o gm trivial rfl).2.trans f_mp
  have f_mn := (hs.o gm trivial rfl).2.trans f_mn
  have f_ml := (hs.o gm trivial rfl).2.trans f_ml
  have f_mh := (hs.o gm trivial rfl).2.trans f_mh
  have f_mt := (hs.o gm trivial rfl).2.trans f_mt
  have f_m_fou := (hs.o gm trivial rfl).2.trans f_m_fou
  have f_qo_ln := (hs.o gx trivial rfl).2.trans f_qo_ln
  have f_o_ln := (hs.o g_qo_ln trivial rfl).1.trans f_o_ln
  have f_o_lsd := (hs.o g_qw trivial rfl).1.trans f_o_lsd
  have f_m_lst := (hs.o gm trivial rfl).2.trans f_m_lst
  have f_m_dead := (hs.o gm trivial rfl).2.trans f_m_dead
  have f_m_isj := (hs.o gm trivial rfl).2.trans f_m_isj
  have pf_qa : ∀ j : Nat, (j : Int) < (h_681.2.1 ax 6).toInt → h_681.2.2 qa j ≠ none := by
    intro j hj; rw [(hs.o gx trivial rfl).1] at hj; rw [(hs.a g_qa rfl j).2]; exact pf_qa j hj
  have pf_qp : ∀ j : Nat, (j : Int) < (h_681.2.1 ax 8).toInt → h_681.2.2 qp j ≠ none := by
    intro j hj; rw [(hs.o gx trivial rfl).1] at hj; rw [(hs.a g_qp rfl j).2]; exact pf_qp j hj
  have pf_qc : ∀ j : Nat, (j : Int) < (h_681.2.1 ax 11).toInt → h_681.2.2 qc j ≠ none := by
    intro j hj; rw [(hs.o gx trivial rfl).1] at hj; rw [(hs.a g_qc rfl j).2]; exact pf_qc j hj
  have pf_qh : ∀ j : Nat, (j : Int) < (h_681.2.1 ax 13).toInt → h_681.2.2 qh j ≠ none := by
    intro j hj; rw [(hs.o gx trivial rfl).1] at hj; rw [(hs.a g_qh rfl j).2]; exact pf_qh j hj
  have pf_ql : ∀ j : Nat, (j : Int) < (h_681.2.1 qw 0).toInt → h_681.2.2 ql j ≠ none := by
    intro j hj; rw [(hs.o g_qw trivial rfl).1] at hj; rw [(hs.a g_ql rfl j).2]; exact pf_ql j hj
  have cl_lst : hx_col 8 h_681 ql 0 = c_lst := (hx_col_S hs hTo g_ql tt_40 tt_2 rfl rfl).trans cl_lst
  have cl_dead : hx_col 40 h_681 qp 7 = c_dead := (hx_col_S hs hTo g_qp tt_44 tt_4 rfl rfl).trans cl_dead
  have cl_isj : hx_col 40 h_681 qp 8 = c_isj := (hx_col_S hs hTo g_qp tt_44 tt_4 rfl rfl).trans cl_isj
  have cl_fou : hx_col 100 h_681 qc 10 = c_fou := (hx_col_S hs hTo g_qc tt_45 tt_2 rfl rfl).trans cl_fou
  have cl_tri : hx_col 100 h_681 qc 9 = c_tri := (hx_col_S hs hTo g_qc tt_45 tt_2 rfl rfl).trans cl_tri
  have nu_qp : hx_num 40 h_681 qp 0 (np.toInt) := hx_num_S hs hTo g_qp tt_44 tt_4 rfl rfl nu_qp
  have nu_qc : hx_num 100 h_681 qc 0 (c0.toInt) := hx_num_S hs hTo g_qc tt_45 tt_2 rfl rfl nu_qc
  have sb_list : hx_LQ 8 100 h_681 ql qc := hx_LQ_S hs g_ql g_qc rfl rfl sb_list
  have n_mw : h_681.2.1 mw = F_mw := (funext fun j => (hs.a g_mw rfl j).1).trans n_mw
  have n_mr : h_681.2.1 mr = F_mr := (funext fun j => (hs.a g_mr rfl j).1).trans n_mr
  have n_mp : h_681.2.1 mp = F_mp := (funext fun j => (hs.a g_mp rfl j).1).trans n_mp
  have n_mn : h_681.2.1 mn = F_mn := (funext fun j => (hs.a g_mn rfl j).1).trans n_mn
  have n_ml : h_681.2.1 ml = F_ml := (funext fun j => (hs.a g_ml rfl j).1).trans n_ml
  have n_mh : h_681.2.1 mh = F_mh := (funext fun j => (hs.a g_mh rfl j).1).trans n_mh
  have n_mt : h_681.2.1 mt = F_mt := (funext fun j => (hs.a g_mt rfl j).1).trans n_mt
  have n_m_fou : h_681.2.1 m_fou = F_m_fou := (funext fun j => (hs.a g_m_fou rfl j).1).trans n_m_fou
  have n_lst : h_681.2.1 m_lst = F_lst := (funext fun j => (hs.a g_m_lst rfl j).1).trans n_lst
  have n_dead : h_681.2.1 m_dead = F_dead := (funext fun j => (hs.a g_m_dead rfl j).1).trans n_dead
  have n_isj : h_681.2.1 m_isj = F_isj := (funext fun j => (hs.a g_m_isj rfl j).1).trans n_isj
  have gx := gx.S hs
  have gm := gm.S hs
  have g_qa := g_qa.S hs
  have g_qp := g_qp.S hs
  have g_qc := g_qc.S hs
  have g_qh := g_qh.S hs
  have g_qw := g_qw.S hs
  have g_ql := g_ql.S hs
  have g_mw := g_mw.S hs
  have g_mr := g_mr.S hs
  have g_mp := g_mp.S hs
  have g_mn := g_mn.S hs
  have g_ml := g_ml.S hs
  have g_mh := g_mh.S hs
  have g_mt := g_mt.S hs
  have g_m_fou := g_m_fou.S hs
  have g_qo_ln := g_qo_ln.S hs
  have g_m_lst := g_m_lst.S hs
  have g_m_dead := g_m_dead.S hs
  have g_m_isj := g_m_isj.S hs
  refine lv_pop hx hb dL_law_1286 rfl ?_
  refine lv_goto (tgt := 1379) hx hb dL_law_1287 (by decide) ?_
  refine W.widen (k := CC + 3) (n := SS + 179) (by omega) (by omega) ?_
  exact kk L_680 h_681 H locs ls hW ⟨hT, gx, gm, ⟨f_x_now.trans f_m_now.symm, f_x_personCount.trans f_m_persons.symm, f_x_claimCount.trans f_m_claims.symm, hx_ob f_qo_ln (f_o_ln.trans f_m_lines.symm), hx_ob f_qw (f_o_lsd.trans f_m_listed.symm), hx_ob f_qp (by rw [f_x_personCount]; exact nu_qp), hx_ob f_qc (by rw [f_x_claimCount]; exact nu_qc), (fun w q c hw hq hc => by obtain rfl : qw = w := Option.some.inj (f_qw.symm.trans hw); obtain rfl : ql = q := Option.some.inj (f_ql.symm.trans hq); obtain rfl : qc = c := Option.some.inj (f_qc.symm.trans hc); exact sb_list), (fun w q r hw hq hr => by obtain rfl : qw = w := Option.some.inj (f_qw.symm.trans hw); obtain rfl : ql = q := Option.some.inj (f_ql.symm.trans hq); obtain rfl : m_lst = r := Option.some.inj (f_m_lst.symm.trans hr); rw [cl_lst, n_lst]; exact eq_lst), hx_ob2 f_qp f_m_dead (by rw [cl_dead, n_dead]; exact eq_dead), hx_ob2 f_qp f_m_isj (by rw [cl_isj, n_isj]; exact eq_isj), hx_ob2 f_qc f_m_fou (by rw [cl_fou, n_m_fou]; exact eq_fou), hx_ob2 f_qc f_mt (by rw [cl_tri, n_mt]; exact eq_tri), trivial⟩, ⟨hx_ob f_qa pf_qa, hx_ob f_qp pf_qp, hx_ob f_qc pf_qc, hx_ob f_qh pf_qh, (fun w q hw hq => by obtain rfl : qw = w := Option.some.inj (f_qw.symm.trans hw); obtain rfl : ql = q := Option.some.inj (f_ql.symm.trans hq); exact pf_ql)⟩, ⟨hx_ob f_mw (by rw [n_mw]; exact hwd), hx_ob f_mr (by rw [n_mr, f_m_acts]; exact hWK), hx_ob2 f_mp f_mn (by rw [n_mp, n_mn, f_m_acts]; exact hRP), hx_ob f_ml (by rw [n_ml, f_m_claims, f_m_acts]; exact hPL), hx_ob f_mh (by rw [n_mh, f_m_heardMany, f_m_claims]; exact hHC), hx_ob f_mt (by rw [n_mt]; exact (hx_TR_le hTR (by omega))), hx_ob2 f_mh f_m_fou (by rw [n_mh, n_m_fou, f_m_claims]; exact hHF)⟩⟩ hl

set_option maxHeartbeats 4000000 in
set_option maxRecDepth 100000 in
theorem law_case_28 {p : Program} {e : Env} {s : State} {m : MethodId} {below : List Frame} {meth : Method} {c : Code} (l : Launch) {b LN : Nat} {xs : Nat → Int32} (hx : p.tables.exec = Jvm.exec) (hb : c.code = code) (hr : meth.sig.returnType = ret) (hlocks : meth.locks = false) (hml : c.maxLocals = 4) (hown : s.vm.findClass "SmallCourtLaw" = some m.cls) (hts : ∀ w ∈ hx_all, w.before #[Value.ref b] s = true) (hX : va_X b LN xs s s.heap) (hbl : b < s.heap.size) (hbA : ¬ s.heap.size ≤ b) (hLN : LN ≤ 3584) (dC : Nat → ClassId) (dI : Nat → Nat → Nat) (dA : Nat → ClassId) (b0 : hx_z) (ax am : Nat) (T1 : Int) (hT0 : 0 ≤ T1) (hT1 : T1 ≤ 511) (i : Int32) (hi0 : 0 ≤ i.toInt) (hiL : i.toInt + 7 ≤ LN) (CC SS : Nat) (hCC : CC + 3 ≤ 600000) (hSS : SS + 179 ≤ 7302250) (L1 : List Nat) (hl1 : hx_h) (H : Heap) (locs : List Loc) (ls : Array Slot) (hW : hx_W T_tb (P_ty dA) (dC, dI) vwCl (fun q : Nat => s.heap.size ≤ q) s.heap L1 hl1 s H locs) (hZ : hx_Xt (fun q : Nat => s.heap.size ≤ q) b0 s) (hI : hx_IV T1 ax am L1 hl1) (hl : lv_has ls 4 [(3, .int i), (2, .ref am), (1, .ref ax), (0, .ref b)]) (kk : ∀ (L2 : List Nat) (h2 : hx_h) (H2 : Heap) (locs2 : List Loc) (ls2 : Array Slot), hx_W T_tb (P_ty dA) (dC, dI) vwCl (fun q : Nat => s.heap.size ≤ q) s.heap L2 h2 s H2 locs2 → hx_IV (T1 + 1) ax am L2 h2 → lv_has ls2 4 [(3, .int i), (2, .ref am), (1, .ref ax), (0, .ref b)] → W p l e room_1 s m #[Value.ref b] below meth c H2 locs2 (CC + 3) (SS + 179) (lw_Z below #[Value.ref b] s) (F0 m 1379 ls2 [])) : W p l e room_1 s m #[Value.ref b] below meth c H locs CC SS (lw_Z below #[Value.ref b] s) (F0 m 1290 ls []) := by
  obtain ⟨hT, gx, gm, ⟨he_nw, he_np, he_c0, ho_ln, ho_lsd, hn_qp, hn_qc, hLQ, hLE, hc_dead, hc_isj, hc_fou, hc_tri, -⟩, ⟨ia, ip, ic, ih, il⟩, ⟨jw, jr, jp, jl, jh, jt, jf⟩⟩ := hI
  obtain ⟨qa, f_qa, g_qa⟩ := hx_rf hT gx tt_9 (k := 5) (u := 43) rfl
  have pf_qa := ia qa f_qa
  obtain ⟨qp, f_qp, g_qp⟩ := hx_rf hT gx tt_9 (k := 7) (u := 44) rfl
  have pf_qp := ip qp f_qp
  obtain ⟨qc, f_qc, g_qc⟩ := hx_rf hT gx tt_9 (k := 10) (u := 45) rfl
  have pf_qc := ic qc f_qc
  obtain ⟨qh, f_qh, g_qh⟩ := hx_rf hT gx tt_9 (k := 12) (u := 46) rfl
  have pf_qh := ih qh f_qh
  obtain ⟨qw, f_qw, g_qw⟩ := hx_rf hT gx tt_9 (k := 19) (u := 8) rfl
  obtain ⟨ql, f_ql, g_ql⟩ := hx_rf hT g_qw tt_8 (k := 3) (u := 40) rfl
  have pf_ql := il qw ql f_qw f_ql
  obtain ⟨nw, f_m_now⟩ : ∃ y : Int32, hl1.2.1 am 0 = y := ⟨_, rfl⟩
  have b_nw := hT.gi gm tt_10 (k := 0) rfl
  rw [f_m_now] at b_nw
  have b_nw : 0 ≤ nw.toInt ∧ nw.toInt ≤ 7999 := b_nw
  obtain ⟨np, f_m_persons⟩ : ∃ y : Int32, hl1.2.1 am 20 = y := ⟨_, rfl⟩
  have b_np := hT.gi gm tt_10 (k := 20) rfl
  rw [f_m_persons] at b_np
  have b_np : 0 ≤ np.toInt ∧ np.toInt ≤ 40 := b_np
  obtain ⟨c0, f_m_claims⟩ : ∃ y : Int32, hl1.2.1 am 36 = y := ⟨_, rfl⟩
  have b_c0 := hT.gi gm tt_10 (k := 36) rfl
  rw [f_m_claims] at b_c0
  have b_c0 : 0 ≤ c0.toInt ∧ c0.toInt ≤ 100 := b_c0
  obtain ⟨ln, f_m_lines⟩ : ∃ y : Int32, hl1.2.1 am 29 = y := ⟨_, rfl⟩
  have b_ln := hT.gi gm tt_10 (k := 29) rfl
  rw [f_m_lines] at b_ln
  have b_ln : 0 ≤ ln.toInt ∧ ln.toInt ≤ 400 := b_ln
  obtain ⟨lsd, f_m_listed⟩ : ∃ y : Int32, hl1.2.1 am 90 = y := ⟨_, rfl⟩
  have b_lsd := hT.gi gm tt_10 (k := 90) rfl
  rw [f_m_listed] at b_lsd
  have b_lsd : 0 ≤ lsd.toInt ∧ lsd.toInt ≤ 8 := b_lsd
  obtain ⟨a0, f_m_acts⟩ : ∃ y : Int32, hl1.2.1 am 1 = y := ⟨_, rfl⟩
  have b_a0 := hT.gi gm tt_10 (k := 1) rfl
  rw [f_m_acts] at b_a0
  have b_a0 : 0 ≤ a0.toInt ∧ a0.toInt ≤ 8 := b_a0
  obtain ⟨m0, f_m_heardMany⟩ : ∃ y : Int32, hl1.2.1 am 57 = y := ⟨_, rfl⟩
  have b_m0 := hT.gi gm tt_10 (k := 57) rfl
  rw [f_m_heardMany] at b_m0
  have b_m0 : 0 ≤ m0.toInt ∧ m0.toInt ≤ 100 := b_m0
  have f_x_now : hl1.2.1 ax 2 = nw := he_nw.trans f_m_now
  have f_x_personCount : hl1.2.1 ax 8 = np := he_np.trans f_m_persons
  have f_x_claimCount : hl1.2.1 ax 11 = c0 := he_c0.trans f_m_claims
  obtain ⟨mw, f_mw, g_mw⟩ := hx_rf hT gm tt_10 (k := 19) (u := 57) rfl
  obtain ⟨F_mw, n_mw⟩ : ∃ g : Nat → Int32, hl1.2.1 mw = g := ⟨_, rfl⟩
  obtain ⟨mr, f_mr, g_mr⟩ := hx_rf hT gm tt_10 (k := 3) (u := 50) rfl
  obtain ⟨F_mr, n_mr⟩ : ∃ g : Nat → Int32, hl1.2.1 mr = g := ⟨_, rfl⟩
  obtain ⟨mp, f_mp, g_mp⟩ := hx_rf hT gm tt_10 (k := 5) (u := 52) rfl
  obtain ⟨F_mp, n_mp⟩ : ∃ g : Nat → Int32, hl1.2.1 mp = g := ⟨_, rfl⟩
  obtain ⟨mn, f_mn, g_mn⟩ := hx_rf hT gm tt_10 (k := 4) (u := 51) rfl
  obtain ⟨F_mn, n_mn⟩ : ∃ g : Nat → Int32, hl1.2.1 mn = g := ⟨_, rfl⟩
  obtain ⟨ml, f_ml, g_ml⟩ := hx_rf hT gm tt_10 (k := 44) (u := 79) rfl
  obtain ⟨F_ml, n_ml⟩ : ∃ g : Nat → Int32, hl1.2.1 ml = g := ⟨_, rfl⟩
  obtain ⟨mh, f_mh, g_mh⟩ := hx_rf hT gm tt_10 (k := 47) (u := 82) rfl
  obtain ⟨F_mh, n_mh⟩ : ∃ g : Nat → Int32, hl1.2.1 mh = g := ⟨_, rfl⟩
  obtain ⟨mt, f_mt, g_mt⟩ := hx_rf hT gm tt_10 (k := 45) (u := 80) rfl
  obtain ⟨F_mt, n_mt⟩ : ∃ g : Nat → Int32, hl1.2.1 mt = g := ⟨_, rfl⟩
  obtain ⟨m_fou, f_m_fou, g_m_fou⟩ := hx_rf hT gm tt_10 (k := 46) (u := 81) rfl
  obtain ⟨F_m_fou, n_m_fou⟩ : ∃ g : Nat → Int32, hl1.2.1 m_fou = g := ⟨_, rfl⟩
  obtain ⟨qo_ln, f_qo_ln, g_qo_ln⟩ := hx_rf hT gx tt_9 (k := 9) (u := 1) rfl
  have f_o_ln : hl1.2.1 qo_ln 0 = ln := (ho_ln qo_ln f_qo_ln).trans f_m_lines
  have f_o_lsd : hl1.2.1 qw 0 = lsd := (ho_lsd qw f_qw).trans f_m_listed
  have nu_qp := hn_qp qp f_qp; rw [f_x_personCount] at nu_qp
  have nu_qc := hn_qc qc f_qc; rw [f_x_claimCount] at nu_qc
  have sb_list := hLQ qw ql qc f_qw f_ql f_qc
  obtain ⟨m_lst, f_m_lst, g_m_lst⟩ := hx_rf hT gm tt_10 (k := 91) (u := 112) rfl
  obtain ⟨F_lst, n_lst⟩ : ∃ g : Nat → Int32, hl1.2.1 m_lst = g := ⟨_, rfl⟩
  obtain ⟨c_lst, cl_lst⟩ : ∃ g : Nat → Int32, hx_col 8 hl1 ql 0 = g := ⟨_, rfl⟩
  have eq_lst := hLE qw ql m_lst f_qw f_ql f_m_lst; rw [cl_lst, n_lst] at eq_lst
  obtain ⟨c_dead, cl_dead⟩ : ∃ g : Nat → Int32, hx_col 40 hl1 qp 7 = g := ⟨_, rfl⟩
  obtain ⟨m_dead, f_m_dead, g_m_dead⟩ := hx_rf hT gm tt_10 (k := 27) (u := 64) rfl
  obtain ⟨F_dead, n_dead⟩ : ∃ g : Nat → Int32, hl1.2.1 m_dead = g := ⟨_, rfl⟩
  have eq_dead := hc_dead qp m_dead f_qp f_m_dead; rw [cl_dead, n_dead] at eq_dead
  have z_dead : np.toInt.toNat < 40 → c_dead np.toInt.toNat = 0 := fun hj => hx_num_z nu_qp cl_dead hj (by omega)
  obtain ⟨c_isj, cl_isj⟩ : ∃ g : Nat → Int32, hx_col 40 hl1 qp 8 = g := ⟨_, rfl⟩
  obtain ⟨m_isj, f_m_isj, g_m_isj⟩ := hx_rf hT gm tt_10 (k := 28) (u := 65) rfl
  obtain ⟨F_isj, n_isj⟩ : ∃ g : Nat → Int32, hl1.2.1 m_isj = g := ⟨_, rfl⟩
  have eq_isj := hc_isj qp m_isj f_qp f_m_isj; rw [cl_isj, n_isj] at eq_isj
  have z_isj : np.toInt.toNat < 40 → c_isj np.toInt.toNat = 0 := fun hj => hx_num_z nu_qp cl_isj hj (by omega)
  obtain ⟨c_fou, cl_fou⟩ : ∃ g : Nat → Int32, hx_col 100 hl1 qc 10 = g := ⟨_, rfl⟩
  have eq_fou := hc_fou qc m_fou f_qc f_m_fou; rw [cl_fou, n_m_fou] at eq_fou
  have z_fou : c0.toInt.toNat < 100 → c_fou c0.toInt.toNat = 0 := fun hj => hx_num_z nu_qc cl_fou hj (by omega)
  obtain ⟨c_tri, cl_tri⟩ : ∃ g : Nat → Int32, hx_col 100 hl1 qc 9 = g := ⟨_, rfl⟩
  have eq_tri := hc_tri qc mt f_qc f_mt; rw [cl_tri, n_mt] at eq_tri
  have z_tri : c0.toInt.toNat < 100 → c_tri c0.toInt.toNat = 0 := fun hj => hx_num_z nu_qc cl_tri hj (by omega)
  have hwd := jw mw f_mw; rw [n_mw] at hwd
  have hWK := jr mr f_mr; rw [n_mr, f_m_acts] at hWK
  have hRP := jp mp mn f_mp f_mn; rw [n_mp, n_mn, f_m_acts] at hRP
  have hPL := jl ml f_ml; rw [n_ml, f_m_claims, f_m_acts] at hPL
  have hHC := jh mh f_mh; rw [n_mh, f_m_heardMany, f_m_claims] at hHC
  have hTR := jt mt f_mt; rw [n_mt] at hTR
  have hHF := jf mh m_fou f_mh f_m_fou; rw [n_mh, n_m_fou, f_m_claims] at hHF
  refine lv_aload_n hx hb dL_law_1290 rfl (lv_at hl 2 rfl) ?_
  refine lv_aload_n hx hb dL_law_1291 rfl (lv_at hl 3 rfl) ?_
  refine lv_iload_n hx hb dL_law_1292 rfl (lv_at hl 0 rfl) ?_
  refine lv_iconst (v := 1) hx hb dL_law_1293 (by decide) ?_
  refine lv_iadd hx hb dL_law_1294 ?_
  have rg_685 := i32_r i
  refine lv_topi (fun x_686 ex_686 => ?_)
  have zx_686 : x_686.toInt = i.toInt + 1 := by rw [ex_686]; exact i32_add rfl (by decide) (by omega) (by omega)
  refine va_sld hx hb hX hbl hbA hW.2.2.2.1 (vp_in_iff.mpr ⟨by omega, by omega⟩) dL_law_1295 ?_
  refine lv_topi (fun x_687 ex_687 => ?_)
  refine lv_aload_n hx hb dL_law_1296 rfl (lv_at hl 3 rfl) ?_
  refine lv_iload_n hx hb dL_law_1297 rfl (lv_at hl 0 rfl) ?_
  refine lv_iconst (v := 2) hx hb dL_law_1298 (by decide) ?_
  refine lv_iadd hx hb dL_law_1299 ?_
  refine lv_topi (fun x_688 ex_688 => ?_)
  have zx_688 : x_688.toInt = i.toInt + 2 := by rw [ex_688]; exact i32_add rfl (by decide) (by omega) (by omega)
  refine va_sld hx hb hX hbl hbA hW.2.2.2.1 (vp_in_iff.mpr ⟨by omega, by omega⟩) dL_law_1300 ?_
  refine lv_topi (fun x_689 ex_689 => ?_)
  have hTo := hT
  refine hx_goi (hx_runV (As := [.int x_687, .int x_689]) (rest := []) ⟨hx, hb, hml, hown, hts⟩ hW gx tt_9 (T := TX9) (N := 20) rfl (t_X9_habit l dC dI dA L1 hl1 H.size ax x_687 x_689 hT gx qp g_qp f_qp qh g_qh f_qh pf_qp pf_qh) (cwV 2 hts (hx_gV kw_1092 kw_1089 kw_1090 kw_1091 kw_94) rfl rfl rfl (by decide +kernel) ⟨Nat.le_of_ble_eq_true rfl, Nat.le_of_ble_eq_true rfl⟩) rfl hl.1 rfl (Nat.le_of_ble_eq_true rfl) dL_law_1301 ⟨(show CC + 0 ≤ 600000 from by omega), (show SS + 0 ≤ 7302250 from by omega)⟩) hW (fun r_692 L_690 h_691 H locs p_693 hW => ?_)
  obtain ⟨hr_694, hT, hs⟩ := p_693
  have hT : hx_T T_tb L_690 h_691 := hT
  have hs : hx_S T_tb [] L1 hl1 L_690 h_691 := hs
  have f_qa := (hs.o gx trivial rfl).2.trans f_qa
  have f_qp := (hs.o gx trivial rfl).2.trans f_qp
  have f_qc := (hs.o gx trivial rfl).2.trans f_qc
  have f_qh := (hs.o gx trivial rfl).2.trans f_qh
  have f_qw := (hs.o gx trivial rfl).2.trans f_qw
  have f_ql := (hs.o g_qw trivial rfl).2.trans f_ql
  have f_m_now := (hs.o gm trivial rfl).1.trans f_m_now
  have f_m_persons := (hs.o gm trivial rfl).1.trans f_m_persons
  have f_m_claims := (hs.o gm trivial rfl).1.trans f_m_claims
  have f_m_lines := (hs.o gm trivial rfl).1.trans f_m_lines
  have f_m_listed := (hs.o gm trivial rfl).1.trans f_m_listed
  have f_m_acts := (hs.o gm trivial rfl).1.trans f_m_acts
  have f_m_heardMany := (hs.o gm trivial rfl).1.trans f_m_heardMany
  have f_x_now := (hs.o gx trivial rfl).1.trans f_x_now
  have f_x_personCount := (hs.o gx trivial rfl).1.trans f_x_personCount
  have f_x_claimCount := (hs.o gx trivial rfl).1.trans f_x_claimCount
  have f_mw := (hs.o gm trivial rfl).2.trans f_mw
  have f_mr := (hs.o gm trivial rfl).2.trans f_mr
  have f_mp := (hs.o gm trivial rfl).2.trans f_mp
  have f_mn := (hs.o gm trivial rfl).2.trans f_mn
  have f_ml := (hs.o gm trivial rfl).2.trans f_ml
  have f_mh := (hs.o gm trivial rfl).2.trans f_mh
  have f_mt := (hs.o gm trivial rfl).2.trans f_mt
  have f_m_fou := (hs.o gm trivial rfl).2.trans f_m_fou
  have f_qo_ln := (hs.o gx trivial rfl).2.trans f_qo_ln
  have f_o_ln := (hs.o g_qo_ln trivial rfl).1.trans f_o_ln
  have f_o_lsd := (hs.o g_qw trivial rfl).1.trans f_o_lsd
  have f_m_lst := (hs.o gm trivial rfl).2.trans f_m_lst
  have f_m_dead := (hs.o gm trivial rfl).2.trans f_m_dead
  have f_m_isj := (hs.o gm trivial rfl).2.trans f_m_isj
  have pf_qa : ∀ j : Nat, (j : Int) < (h_691.2.1 ax 6).toInt → h_691.2.2 qa j ≠ none := by
    intro j hj; rw [(hs.o gx trivial rfl).1] at hj; rw [(hs.a g_qa rfl j).2]; exact pf_qa j hj
  have pf_qp : ∀ j : Nat, (j : Int) < (h_691.2.1 ax 8).toInt → h_691.2.2 qp j ≠ none := by
    intro j hj; rw [(hs.o gx trivial rfl).1] at hj; rw [(hs.a g_qp rfl j).2]; exact pf_qp j hj
  have pf_qc : ∀ j : Nat, (j : Int) < (h_691.2.1 ax 11).toInt → h_691.2.2 qc j ≠ none := by
    intro j hj; rw [(hs.o gx trivial rfl).1] at hj; rw [(hs.a g_qc rfl j).2]; exact pf_qc j hj
  have pf_qh : ∀ j : Nat, (j : Int) < (h_691.2.1 ax 13).toInt → h_691.2.2 qh j ≠ none := by
    intro j hj; rw [(hs.o gx trivial rfl).1] at hj; rw [(hs.a g_qh rfl j).2]; exact pf_qh j hj
  have pf_ql : ∀ j : Nat, (j : Int) < (h_691.2.1 qw 0).toInt → h_691.2.2 ql j ≠ none := by
    intro j hj; rw [(hs.o g_qw trivial rfl).1] at hj; rw [(hs.a g_ql rfl j).2]; exact pf_ql j hj
  have cl_lst : hx_col 8 h_691 ql 0 = c_lst := (hx_col_S hs hTo g_ql tt_40 tt_2 rfl rfl).trans cl_lst
  have cl_dead : hx_col 40 h_691 qp 7 = c_dead := (hx_col_S hs hTo g_qp tt_44 tt_4 rfl rfl).trans cl_dead
  have cl_isj : hx_col 40 h_691 qp 8 = c_isj := (hx_col_S hs hTo g_qp tt_44 tt_4 rfl rfl).trans cl_isj
  have cl_fou : hx_col 100 h_691 qc 10 = c_fou := (hx_col_S hs hTo g_qc tt_45 tt_2 rfl rfl).trans cl_fou
  have cl_tri : hx_col 100 h_691 qc 9 = c_tri := (hx_col_S hs hTo g_qc tt_45 tt_2 rfl rfl).trans cl_tri
  have nu_qp : hx_num 40 h_691 qp 0 (np.toInt) := hx_num_S hs hTo g_qp tt_44 tt_4 rfl rfl nu_qp
  have nu_qc : hx_num 100 h_691 qc 0 (c0.toInt) := hx_num_S hs hTo g_qc tt_45 tt_2 rfl rfl nu_qc
  have sb_list : hx_LQ 8 100 h_691 ql qc := hx_LQ_S hs g_ql g_qc rfl rfl sb_list
  have n_mw : h_691.2.1 mw = F_mw := (funext fun j => (hs.a g_mw rfl j).1).trans n_mw
  have n_mr : h_691.2.1 mr = F_mr := (funext fun j => (hs.a g_mr rfl j).1).trans n_mr
  have n_mp : h_691.2.1 mp = F_mp := (funext fun j => (hs.a g_mp rfl j).1).trans n_mp
  have n_mn : h_691.2.1 mn = F_mn := (funext fun j => (hs.a g_mn rfl j).1).trans n_mn
  have n_ml : h_691.2.1 ml = F_ml := (funext fun j => (hs.a g_ml rfl j).1).trans n_ml
  have n_mh : h_691.2.1 mh = F_mh := (funext fun j => (hs.a g_mh rfl j).1).trans n_mh
  have n_mt : h_691.2.1 mt = F_mt := (funext fun j => (hs.a g_mt rfl j).1).trans n_mt
  have n_m_fou : h_691.2.1 m_fou = F_m_fou := (funext fun j => (hs.a g_m_fou rfl j).1).trans n_m_fou
  have n_lst : h_691.2.1 m_lst = F_lst := (funext fun j => (hs.a g_m_lst rfl j).1).trans n_lst
  have n_dead : h_691.2.1 m_dead = F_dead := (funext fun j => (hs.a g_m_dead rfl j).1).trans n_dead
  have n_isj : h_691.2.1 m_isj = F_isj := (funext fun j => (hs.a g_m_isj rfl j).1).trans n_isj
  have gx := gx.S hs
  have gm := gm.S hs
  have g_qa := g_qa.S hs
  have g_qp := g_qp.S hs
  have g_qc := g_qc.S hs
  have g_qh := g_qh.S hs
  have g_qw := g_qw.S hs
  have g_ql := g_ql.S hs
  have g_mw := g_mw.S hs
  have g_mr := g_mr.S hs
  have g_mp := g_mp.S hs
  have g_mn := g_mn.S hs
  have g_ml := g_ml.S hs
  have g_mh := g_mh.S hs
  have g_mt := g_mt.S hs
  have g_m_fou := g_m_fou.S hs
  have g_qo_ln := g_qo_ln.S hs
  have g_m_lst := g_m_lst.S hs
  have g_m_dead := g_m_dead.S hs
  have g_m_isj := g_m_isj.S hs
  refine lv_pop hx hb dL_law_1304 rfl ?_
  refine lv_aload_n hx hb dL_law_1305 rfl (lv_at hl 1 rfl) ?_
  refine lv_aload_n hx hb dL_law_1306 rfl (lv_at hl 3 rfl) ?_
  refine lv_iload_n hx hb dL_law_1307 rfl (lv_at hl 0 rfl) ?_
  refine lv_iconst (v := 1) hx hb dL_law_1308 (by decide) ?_
  refine lv_iadd hx hb dL_law_1309 ?_
  refine lv_topi (fun x_695 ex_695 => ?_)
  have zx_695 : x_695.toInt = i.toInt + 1 := by rw [ex_695]; exact i32_add rfl (by decide) (by omega) (by omega)
  obtain rfl : x_686 = x_695 := ex_686.trans ex_695.symm
  refine va_sld hx hb hX hbl hbA hW.2.2.2.1 (vp_in_iff.mpr ⟨by omega, by omega⟩) dL_law_1310 ?_
  refine lv_topi (fun x_696 ex_696 => ?_)
  obtain rfl : x_687 = x_696 := ex_687.trans ex_696.symm
  refine lv_aload_n hx hb dL_law_1311 rfl (lv_at hl 3 rfl) ?_
  refine lv_iload_n hx hb dL_law_1312 rfl (lv_at hl 0 rfl) ?_
  refine lv_iconst (v := 2) hx hb dL_law_1313 (by decide) ?_
  refine lv_iadd hx hb dL_law_1314 ?_
  refine lv_topi (fun x_697 ex_697 => ?_)
  have zx_697 : x_697.toInt = i.toInt + 2 := by rw [ex_697]; exact i32_add rfl (by decide) (by omega) (by omega)
  obtain rfl : x_688 = x_697 := ex_688.trans ex_697.symm
  refine va_sld hx hb hX hbl hbA hW.2.2.2.1 (vp_in_iff.mpr ⟨by omega, by omega⟩) dL_law_1315 ?_
  refine lv_topi (fun x_698 ex_698 => ?_)
  obtain rfl : x_689 = x_698 := ex_689.trans ex_698.symm
  have hTo := hT
  refine hx_goi (hx_runV (As := [.int x_687, .int x_689]) (rest := []) ⟨hx, hb, hml, hown, hts⟩ hW gm tt_10 (T := TX10) (N := 98) rfl (t_X10_habit l dC dI dA L_690 h_691 H.size am x_687 x_689 hT gm) (cwV 2 hts (hx_gV kw_1736 kw_1733 kw_1734 kw_1735 kw_103) rfl rfl rfl (by decide +kernel) ⟨Nat.le_of_ble_eq_true rfl, Nat.le_of_ble_eq_true rfl⟩) rfl hl.1 rfl (Nat.le_of_ble_eq_true rfl) dL_law_1316 ⟨(show CC + 0 + 0 ≤ 600000 from by omega), (show SS + 0 + 0 ≤ 7302250 from by omega)⟩) hW (fun r_701 L_699 h_700 H locs p_702 hW => ?_)
  obtain ⟨hr_703, hT, hs⟩ := p_702
  have hT : hx_T T_tb L_699 h_700 := hT
  have hs : hx_S T_tb [(10, 95), (10, 96), (115, 0)] L_690 h_691 L_699 h_700 := hs
  have f_qa := (hs.o gx trivial rfl).2.trans f_qa
  have f_qp := (hs.o gx trivial rfl).2.trans f_qp
  have f_qc := (hs.o gx trivial rfl).2.trans f_qc
  have f_qh := (hs.o gx trivial rfl).2.trans f_qh
  have f_qw := (hs.o gx trivial rfl).2.trans f_qw
  have f_ql := (hs.o g_qw trivial rfl).2.trans f_ql
  have f_m_now := (hs.o gm trivial rfl).1.trans f_m_now
  have f_m_persons := (hs.o gm trivial rfl).1.trans f_m_persons
  have f_m_claims := (hs.o gm trivial rfl).1.trans f_m_claims
  have f_m_lines := (hs.o gm trivial rfl).1.trans f_m_lines
  have f_m_listed := (hs.o gm trivial rfl).1.trans f_m_listed
  have f_m_acts := (hs.o gm trivial rfl).1.trans f_m_acts
  have f_m_heardMany := (hs.o gm trivial rfl).1.trans f_m_heardMany
  have f_x_now := (hs.o gx trivial rfl).1.trans f_x_now
  have f_x_personCount := (hs.o gx trivial rfl).1.trans f_x_personCount
  have f_x_claimCount := (hs.o gx trivial rfl).1.trans f_x_claimCount
  have f_mw := (hs.o gm trivial rfl).2.trans f_mw
  have f_mr := (hs.o gm trivial rfl).2.trans f_mr
  have f_mp := (hs.o gm trivial rfl).2.trans f_mp
  have f_mn := (hs.o gm trivial rfl).2.trans f_mn
  have f_ml := (hs.o gm trivial rfl).2.trans f_ml
  have f_mh := (hs.o gm trivial rfl).2.trans f_mh
  have f_mt := (hs.o gm trivial rfl).2.trans f_mt
  have f_m_fou := (hs.o gm trivial rfl).2.trans f_m_fou
  have f_qo_ln := (hs.o gx trivial rfl).2.trans f_qo_ln
  have f_o_ln := (hs.o g_qo_ln trivial rfl).1.trans f_o_ln
  have f_o_lsd := (hs.o g_qw trivial rfl).1.trans f_o_lsd
  have f_m_lst := (hs.o gm trivial rfl).2.trans f_m_lst
  have f_m_dead := (hs.o gm trivial rfl).2.trans f_m_dead
  have f_m_isj := (hs.o gm trivial rfl).2.trans f_m_isj
  have pf_qa : ∀ j : Nat, (j : Int) < (h_700.2.1 ax 6).toInt → h_700.2.2 qa j ≠ none := by
    intro j hj; rw [(hs.o gx trivial rfl).1] at hj; rw [(hs.a g_qa rfl j).2]; exact pf_qa j hj
  have pf_qp : ∀ j : Nat, (j : Int) < (h_700.2.1 ax 8).toInt → h_700.2.2 qp j ≠ none := by
    intro j hj; rw [(hs.o gx trivial rfl).1] at hj; rw [(hs.a g_qp rfl j).2]; exact pf_qp j hj
  have pf_qc : ∀ j : Nat, (j : Int) < (h_700.2.1 ax 11).toInt → h_700.2.2 qc j ≠ none := by
    intro j hj; rw [(hs.o gx trivial rfl).1] at hj; rw [(hs.a g_qc rfl j).2]; exact pf_qc j hj
  have pf_qh : ∀ j : Nat, (j : Int) < (h_700.2.1 ax 13).toInt → h_700.2.2 qh j ≠ none := by
    intro j hj; rw [(hs.o gx trivial rfl).1] at hj; rw [(hs.a g_qh rfl j).2]; exact pf_qh j hj
  have pf_ql : ∀ j : Nat, (j : Int) < (h_700.2.1 qw 0).toInt → h_700.2.2 ql j ≠ none := by
    intro j hj; rw [(hs.o g_qw trivial rfl).1] at hj; rw [(hs.a g_ql rfl j).2]; exact pf_ql j hj
  have cl_lst : hx_col 8 h_700 ql 0 = c_lst := (hx_col_S hs hTo g_ql tt_40 tt_2 rfl rfl).trans cl_lst
  have cl_dead : hx_col 40 h_700 qp 7 = c_dead := (hx_col_S hs hTo g_qp tt_44 tt_4 rfl rfl).trans cl_dead
  have cl_isj : hx_col 40 h_700 qp 8 = c_isj := (hx_col_S hs hTo g_qp tt_44 tt_4 rfl rfl).trans cl_isj
  have cl_fou : hx_col 100 h_700 qc 10 = c_fou := (hx_col_S hs hTo g_qc tt_45 tt_2 rfl rfl).trans cl_fou
  have cl_tri : hx_col 100 h_700 qc 9 = c_tri := (hx_col_S hs hTo g_qc tt_45 tt_2 rfl rfl).trans cl_tri
  have nu_qp : hx_num 40 h_700 qp 0 (np.toInt) := hx_num_S hs hTo g_qp tt_44 tt_4 rfl rfl nu_qp
  have nu_qc : hx_num 100 h_700 qc 0 (c0.toInt) := hx_num_S hs hTo g_qc tt_45 tt_2 rfl rfl nu_qc
  have sb_list : hx_LQ 8 100 h_700 ql qc := hx_LQ_S hs g_ql g_qc rfl rfl sb_list
  have n_mw : h_700.2.1 mw = F_mw := (funext fun j => (hs.a g_mw rfl j).1).trans n_mw
  have n_mr : h_700.2.1 mr = F_mr := (funext fun j => (hs.a g_mr rfl j).1).trans n_mr
  have n_mp : h_700.2.1 mp = F_mp := (funext fun j => (hs.a g_mp rfl j).1).trans n_mp
  have n_mn : h_700.2.1 mn = F_mn := (funext fun j => (hs.a g_mn rfl j).1).trans n_mn
  have n_ml : h_700.2.1 ml = F_ml := (funext fun j => (hs.a g_ml rfl j).1).trans n_ml
  have n_mh : h_700.2.1 mh = F_mh := (funext fun j => (hs.a g_mh rfl j).1).trans n_mh
  have n_mt : h_700.2.1 mt = F_mt := (funext fun j => (hs.a g_mt rfl j).1).trans n_mt
  have n_m_fou : h_700.2.1 m_fou = F_m_fou := (funext fun j => (hs.a g_m_fou rfl j).1).trans n_m_fou
  have n_lst : h_700.2.1 m_lst = F_lst := (funext fun j => (hs.a g_m_lst rfl j).1).trans n_lst
  have n_dead : h_700.2.1 m_dead = F_dead := (funext fun j => (hs.a g_m_dead rfl j).1).trans n_dead
  have n_isj : h_700.2.1 m_isj = F_isj := (funext fun j => (hs.a g_m_isj rfl j).1).trans n_isj
  have gx := gx.S hs
  have gm := gm.S hs
  have g_qa := g_qa.S hs
  have g_qp := g_qp.S hs
  have g_qc := g_qc.S hs
  have g_qh := g_qh.S hs
  have g_qw := g_qw.S hs
  have g_ql := g_ql.S hs
  have g_mw := g_mw.S hs
  have g_mr := g_mr.S hs
  have g_mp := g_mp.S hs
  have g_mn := g_mn.S hs
  have g_ml := g_ml.S hs
  have g_mh := g_mh.S hs
  have g_mt := g_mt.S hs
  have g_m_fou := g_m_fou.S hs
  have g_qo_ln := g_qo_ln.S hs
  have g_m_lst := g_m_lst.S hs
  have g_m_dead := g_m_dead.S hs
  have g_m_isj := g_m_isj.S hs
  refine lv_pop hx hb dL_law_1319 rfl ?_
  refine lv_goto (tgt := 1379) hx hb dL_law_1320 (by decide) ?_
  refine W.widen (k := CC + 3) (n := SS + 179) (by omega) (by omega) ?_
  exact kk L_699 h_700 H locs ls hW ⟨hT, gx, gm, ⟨f_x_now.trans f_m_now.symm, f_x_personCount.trans f_m_persons.symm, f_x_claimCount.trans f_m_claims.symm, hx_ob f_qo_ln (f_o_ln.trans f_m_lines.symm), hx_ob f_qw (f_o_lsd.trans f_m_listed.symm), hx_ob f_qp (by rw [f_x_personCount]; exact nu_qp), hx_ob f_qc (by rw [f_x_claimCount]; exact nu_qc), (fun w q c hw hq hc => by obtain rfl : qw = w := Option.some.inj (f_qw.symm.trans hw); obtain rfl : ql = q := Option.some.inj (f_ql.symm.trans hq); obtain rfl : qc = c := Option.some.inj (f_qc.symm.trans hc); exact sb_list), (fun w q r hw hq hr => by obtain rfl : qw = w := Option.some.inj (f_qw.symm.trans hw); obtain rfl : ql = q := Option.some.inj (f_ql.symm.trans hq); obtain rfl : m_lst = r := Option.some.inj (f_m_lst.symm.trans hr); rw [cl_lst, n_lst]; exact eq_lst), hx_ob2 f_qp f_m_dead (by rw [cl_dead, n_dead]; exact eq_dead), hx_ob2 f_qp f_m_isj (by rw [cl_isj, n_isj]; exact eq_isj), hx_ob2 f_qc f_m_fou (by rw [cl_fou, n_m_fou]; exact eq_fou), hx_ob2 f_qc f_mt (by rw [cl_tri, n_mt]; exact eq_tri), trivial⟩, ⟨hx_ob f_qa pf_qa, hx_ob f_qp pf_qp, hx_ob f_qc pf_qc, hx_ob f_qh pf_qh, (fun w q hw hq => by obtain rfl : qw = w := Option.some.inj (f_qw.symm.trans hw); obtain rfl : ql = q := Option.some.inj (f_ql.symm.trans hq); exact pf_ql)⟩, ⟨hx_ob f_mw (by rw [n_mw]; exact hwd), hx_ob f_mr (by rw [n_mr, f_m_acts]; exact hWK), hx_ob2 f_mp f_mn (by rw [n_mp, n_mn, f_m_acts]; exact hRP), hx_ob f_ml (by rw [n_ml, f_m_claims, f_m_acts]; exact hPL), hx_ob f_mh (by rw [n_mh, f_m_heardMany, f_m_claims]; exact hHC), hx_ob f_mt (by rw [n_mt]; exact (hx_TR_le hTR (by omega))), hx_ob2 f_mh f_m_fou (by rw [n_mh, n_m_fou, f_m_claims]; exact hHF)⟩⟩ hl

set_option maxHeartbeats 4000000 in
set_option maxRecDepth 100000 in
theorem law_case_29 {p : Program} {e : Env} {s : State} {m : MethodId} {below : List Frame} {meth : Method} {c : Code} (l : Launch) {b LN : Nat} {xs : Nat → Int32} (hx : p.tables.exec = Jvm.exec) (hb : c.code = code) (hr : meth.sig.returnType = ret) (hlocks : meth.locks = false) (hml : c.maxLocals = 4) (hown : s.vm.findClass "SmallCourtLaw" = some m.cls) (hts : ∀ w ∈ hx_all, w.before #[Value.ref b] s = true) (hX : va_X b LN xs s s.heap) (hbl : b < s.heap.size) (hbA : ¬ s.heap.size ≤ b) (hLN : LN ≤ 3584) (dC : Nat → ClassId) (dI : Nat → Nat → Nat) (dA : Nat → ClassId) (b0 : hx_z) (ax am : Nat) (T1 : Int) (hT0 : 0 ≤ T1) (hT1 : T1 ≤ 511) (i : Int32) (hi0 : 0 ≤ i.toInt) (hiL : i.toInt + 7 ≤ LN) (CC SS : Nat) (hCC : CC + 3 ≤ 600000) (hSS : SS + 179 ≤ 7302250) (L1 : List Nat) (hl1 : hx_h) (H : Heap) (locs : List Loc) (ls : Array Slot) (hW : hx_W T_tb (P_ty dA) (dC, dI) vwCl (fun q : Nat => s.heap.size ≤ q) s.heap L1 hl1 s H locs) (hZ : hx_Xt (fun q : Nat => s.heap.size ≤ q) b0 s) (hI : hx_IV T1 ax am L1 hl1) (hl : lv_has ls 4 [(3, .int i), (2, .ref am), (1, .ref ax), (0, .ref b)]) (kk : ∀ (L2 : List Nat) (h2 : hx_h) (H2 : Heap) (locs2 : List Loc) (ls2 : Array Slot), hx_W T_tb (P_ty dA) (dC, dI) vwCl (fun q : Nat => s.heap.size ≤ q) s.heap L2 h2 s H2 locs2 → hx_IV (T1 + 1) ax am L2 h2 → lv_has ls2 4 [(3, .int i), (2, .ref am), (1, .ref ax), (0, .ref b)] → W p l e room_1 s m #[Value.ref b] below meth c H2 locs2 (CC + 3) (SS + 179) (lw_Z below #[Value.ref b] s) (F0 m 1379 ls2 [])) : W p l e room_1 s m #[Value.ref b] below meth c H locs CC SS (lw_Z below #[Value.ref b] s) (F0 m 1323 ls []) := by
  obtain ⟨hT, gx, gm, ⟨he_nw, he_np, he_c0, ho_ln, ho_lsd, hn_qp, hn_qc, hLQ, hLE, hc_dead, hc_isj, hc_fou, hc_tri, -⟩, ⟨ia, ip, ic, ih, il⟩, ⟨jw, jr, jp, jl, jh, jt, jf⟩⟩ := hI
  obtain ⟨qa, f_qa, g_qa⟩ := hx_rf hT gx tt_9 (k := 5) (u := 43) rfl
  have pf_qa := ia qa f_qa
  obtain ⟨qp, f_qp, g_qp⟩ := hx_rf hT gx tt_9 (k := 7) (u := 44) rfl
  have pf_qp := ip qp f_qp
  obtain ⟨qc, f_qc, g_qc⟩ := hx_rf hT gx tt_9 (k := 10) (u := 45) rfl
  have pf_qc := ic qc f_qc
  obtain ⟨qh, f_qh, g_qh⟩ := hx_rf hT gx tt_9 (k := 12) (u := 46) rfl
  have pf_qh := ih qh f_qh
  obtain ⟨qw, f_qw, g_qw⟩ := hx_rf hT gx tt_9 (k := 19) (u := 8) rfl
  obtain ⟨ql, f_ql, g_ql⟩ := hx_rf hT g_qw tt_8 (k := 3) (u := 40) rfl
  have pf_ql := il qw ql f_qw f_ql
  obtain ⟨nw, f_m_now⟩ : ∃ y : Int32, hl1.2.1 am 0 = y := ⟨_, rfl⟩
  have b_nw := hT.gi gm tt_10 (k := 0) rfl
  rw [f_m_now] at b_nw
  have b_nw : 0 ≤ nw.toInt ∧ nw.toInt ≤ 7999 := b_nw
  obtain ⟨np, f_m_persons⟩ : ∃ y : Int32, hl1.2.1 am 20 = y := ⟨_, rfl⟩
  have b_np := hT.gi gm tt_10 (k := 20) rfl
  rw [f_m_persons] at b_np
  have b_np : 0 ≤ np.toInt ∧ np.toInt ≤ 40 := b_np
  obtain ⟨c0, f_m_claims⟩ : ∃ y : Int32, hl1.2.1 am 36 = y := ⟨_, rfl⟩
  have b_c0 := hT.gi gm tt_10 (k := 36) rfl
  rw [f_m_claims] at b_c0
  have b_c0 : 0 ≤ c0.toInt ∧ c0.toInt ≤ 100 := b_c0
  obtain ⟨ln, f_m_lines⟩ : ∃ y : Int32, hl1.2.1 am 29 = y := ⟨_, rfl⟩
  have b_ln := hT.gi gm tt_10 (k := 29) rfl
  rw [f_m_lines] at b_ln
  have b_ln : 0 ≤ ln.toInt ∧ ln.toInt ≤ 400 := b_ln
  obtain ⟨lsd, f_m_listed⟩ : ∃ y : Int32, hl1.2.1 am 90 = y := ⟨_, rfl⟩
  have b_lsd := hT.gi gm tt_10 (k := 90) rfl
  rw [f_m_listed] at b_lsd
  have b_lsd : 0 ≤ lsd.toInt ∧ lsd.toInt ≤ 8 := b_lsd
  obtain ⟨a0, f_m_acts⟩ : ∃ y : Int32, hl1.2.1 am 1 = y := ⟨_, rfl⟩
  have b_a0 := hT.gi gm tt_10 (k := 1) rfl
  rw [f_m_acts] at b_a0
  have b_a0 : 0 ≤ a0.toInt ∧ a0.toInt ≤ 8 := b_a0
  obtain ⟨m0, f_m_heardMany⟩ : ∃ y : Int32, hl1.2.1 am 57 = y := ⟨_, rfl⟩
  have b_m0 := hT.gi gm tt_10 (k := 57) rfl
  rw [f_m_heardMany] at b_m0
  have b_m0 : 0 ≤ m0.toInt ∧ m0.toInt ≤ 100 := b_m0
  have f_x_now : hl1.2.1 ax 2 = nw := he_nw.trans f_m_now
  have f_x_personCount : hl1.2.1 ax 8 = np := he_np.trans f_m_persons
  have f_x_claimCount : hl1.2.1 ax 11 = c0 := he_c0.trans f_m_claims
  obtain ⟨mw, f_mw, g_mw⟩ := hx_rf hT gm tt_10 (k := 19) (u := 57) rfl
  obtain ⟨F_mw, n_mw⟩ : ∃ g : Nat → Int32, hl1.2.1 mw = g := ⟨_, rfl⟩
  obtain ⟨mr, f_mr, g_mr⟩ := hx_rf hT gm tt_10 (k := 3) (u := 50) rfl
  obtain ⟨F_mr, n_mr⟩ : ∃ g : Nat → Int32, hl1.2.1 mr = g := ⟨_, rfl⟩
  obtain ⟨mp, f_mp, g_mp⟩ := hx_rf hT gm tt_10 (k := 5) (u := 52) rfl
  obtain ⟨F_mp, n_mp⟩ : ∃ g : Nat → Int32, hl1.2.1 mp = g := ⟨_, rfl⟩
  obtain ⟨mn, f_mn, g_mn⟩ := hx_rf hT gm tt_10 (k := 4) (u := 51) rfl
  obtain ⟨F_mn, n_mn⟩ : ∃ g : Nat → Int32, hl1.2.1 mn = g := ⟨_, rfl⟩
  obtain ⟨ml, f_ml, g_ml⟩ := hx_rf hT gm tt_10 (k := 44) (u := 79) rfl
  obtain ⟨F_ml, n_ml⟩ : ∃ g : Nat → Int32, hl1.2.1 ml = g := ⟨_, rfl⟩
  obtain ⟨mh, f_mh, g_mh⟩ := hx_rf hT gm tt_10 (k := 47) (u := 82) rfl
  obtain ⟨F_mh, n_mh⟩ : ∃ g : Nat → Int32, hl1.2.1 mh = g := ⟨_, rfl⟩
  obtain ⟨mt, f_mt, g_mt⟩ := hx_rf hT gm tt_10 (k := 45) (u := 80) rfl
  obtain ⟨F_mt, n_mt⟩ : ∃ g : Nat → Int32, hl1.2.1 mt = g := ⟨_, rfl⟩
  obtain ⟨m_fou, f_m_fou, g_m_fou⟩ := hx_rf hT gm tt_10 (k := 46) (u := 81) rfl
  obtain ⟨F_m_fou, n_m_fou⟩ : ∃ g : Nat → Int32, hl1.2.1 m_fou = g := ⟨_, rfl⟩
  obtain ⟨qo_ln, f_qo_ln, g_qo_ln⟩ := hx_rf hT gx tt_9 (k := 9) (u := 1) rfl
  have f_o_ln : hl1.2.1 qo_ln 0 = ln := (ho_ln qo_ln f_qo_ln).trans f_m_lines
  have f_o_lsd : hl1.2.1 qw 0 = lsd := (ho_lsd qw f_qw).trans f_m_listed
  have nu_qp := hn_qp qp f_qp; rw [f_x_personCount] at nu_qp
  have nu_qc := hn_qc qc f_qc; rw [f_x_claimCount] at nu_qc
  have sb_list := hLQ qw ql qc f_qw f_ql f_qc
  obtain ⟨m_lst, f_m_lst, g_m_lst⟩ := hx_rf hT gm tt_10 (k := 91) (u := 112) rfl
  obtain ⟨F_lst, n_lst⟩ : ∃ g : Nat → Int32, hl1.2.1 m_lst = g := ⟨_, rfl⟩
  obtain ⟨c_lst, cl_lst⟩ : ∃ g : Nat → Int32, hx_col 8 hl1 ql 0 = g := ⟨_, rfl⟩
  have eq_lst := hLE qw ql m_lst f_qw f_ql f_m_lst; rw [cl_lst, n_lst] at eq_lst
  obtain ⟨c_dead, cl_dead⟩ : ∃ g : Nat → Int32, hx_col 40 hl1 qp 7 = g := ⟨_, rfl⟩
  obtain ⟨m_dead, f_m_dead, g_m_dead⟩ := hx_rf hT gm tt_10 (k := 27) (u := 64) rfl
  obtain ⟨F_dead, n_dead⟩ : ∃ g : Nat → Int32, hl1.2.1 m_dead = g := ⟨_, rfl⟩
  have eq_dead := hc_dead qp m_dead f_qp f_m_dead; rw [cl_dead, n_dead] at eq_dead
  have z_dead : np.toInt.toNat < 40 → c_dead np.toInt.toNat = 0 := fun hj => hx_num_z nu_qp cl_dead hj (by omega)
  obtain ⟨c_isj, cl_isj⟩ : ∃ g : Nat → Int32, hx_col 40 hl1 qp 8 = g := ⟨_, rfl⟩
  obtain ⟨m_isj, f_m_isj, g_m_isj⟩ := hx_rf hT gm tt_10 (k := 28) (u := 65) rfl
  obtain ⟨F_isj, n_isj⟩ : ∃ g : Nat → Int32, hl1.2.1 m_isj = g := ⟨_, rfl⟩
  have eq_isj := hc_isj qp m_isj f_qp f_m_isj; rw [cl_isj, n_isj] at eq_isj
  have z_isj : np.toInt.toNat < 40 → c_isj np.toInt.toNat = 0 := fun hj => hx_num_z nu_qp cl_isj hj (by omega)
  obtain ⟨c_fou, cl_fou⟩ : ∃ g : Nat → Int32, hx_col 100 hl1 qc 10 = g := ⟨_, rfl⟩
  have eq_fou := hc_fou qc m_fou f_qc f_m_fou; rw [cl_fou, n_m_fou] at eq_fou
  have z_fou : c0.toInt.toNat < 100 → c_fou c0.toInt.toNat = 0 := fun hj => hx_num_z nu_qc cl_fou hj (by omega)
  obtain ⟨c_tri, cl_tri⟩ : ∃ g : Nat → Int32, hx_col 100 hl1 qc 9 = g := ⟨_, rfl⟩
  have eq_tri := hc_tri qc mt f_qc f_mt; rw [cl_tri, n_mt] at eq_tri
  have z_tri : c0.toInt.toNat < 100 → c_tri c0.toInt.toNat = 0 := fun hj => hx_num_z nu_qc cl_tri hj (by omega)
  have hwd := jw mw f_mw; rw [n_mw] at hwd
  have hWK := jr mr f_mr; rw [n_mr, f_m_acts] at hWK
  have hRP := jp mp mn f_mp f_mn; rw [n_mp, n_mn, f_m_acts] at hRP
  have hPL := jl ml f_ml; rw [n_ml, f_m_claims, f_m_acts] at hPL
  have hHC := jh mh f_mh; rw [n_mh, f_m_heardMany, f_m_claims] at hHC
  have hTR := jt mt f_mt; rw [n_mt] at hTR
  have hHF := jf mh m_fou f_mh f_m_fou; rw [n_mh, n_m_fou, f_m_claims] at hHF
  refine lv_aload_n hx hb dL_law_1323 rfl (lv_at hl 2 rfl) ?_
  refine lv_aload_n hx hb dL_law_1324 rfl (lv_at hl 3 rfl) ?_
  refine lv_iload_n hx hb dL_law_1325 rfl (lv_at hl 0 rfl) ?_
  refine lv_iconst (v := 1) hx hb dL_law_1326 (by decide) ?_
  refine lv_iadd hx hb dL_law_1327 ?_
  have rg_704 := i32_r i
  refine lv_topi (fun x_705 ex_705 => ?_)
  have zx_705 : x_705.toInt = i.toInt + 1 := by rw [ex_705]; exact i32_add rfl (by decide) (by omega) (by omega)
  refine va_sld hx hb hX hbl hbA hW.2.2.2.1 (vp_in_iff.mpr ⟨by omega, by omega⟩) dL_law_1328 ?_
  refine lv_topi (fun x_706 ex_706 => ?_)
  refine lv_aload_n hx hb dL_law_1329 rfl (lv_at hl 3 rfl) ?_
  refine lv_iload_n hx hb dL_law_1330 rfl (lv_at hl 0 rfl) ?_
  refine lv_iconst (v := 2) hx hb dL_law_1331 (by decide) ?_
  refine lv_iadd hx hb dL_law_1332 ?_
  refine lv_topi (fun x_707 ex_707 => ?_)
  have zx_707 : x_707.toInt = i.toInt + 2 := by rw [ex_707]; exact i32_add rfl (by decide) (by omega) (by omega)
  refine va_sld hx hb hX hbl hbA hW.2.2.2.1 (vp_in_iff.mpr ⟨by omega, by omega⟩) dL_law_1333 ?_
  refine lv_topi (fun x_708 ex_708 => ?_)
  have hTo := hT
  refine hx_goi (hx_runV (As := [.int x_706, .int x_708]) (rest := []) ⟨hx, hb, hml, hown, hts⟩ hW gx tt_9 (T := TX9) (N := 20) rfl (t_X9_other l dC dI dA L1 hl1 H.size ax x_706 x_708 hT gx qa g_qa f_qa qh g_qh f_qh qc g_qc f_qc pf_qa pf_qh pf_qc) (cwV 2 hts (hx_gV kw_1104 kw_1101 kw_1102 kw_1103 kw_94) rfl rfl rfl (by decide +kernel) ⟨Nat.le_of_ble_eq_true rfl, Nat.le_of_ble_eq_true rfl⟩) rfl hl.1 rfl (Nat.le_of_ble_eq_true rfl) dL_law_1334 ⟨(show CC + 0 ≤ 600000 from by omega), (show SS + 0 ≤ 7302250 from by omega)⟩) hW (fun r_711 L_709 h_710 H locs p_712 hW => ?_)
  obtain ⟨hr_713, hT, hs⟩ := p_712
  have hT : hx_T T_tb L_709 h_710 := hT
  have hs : hx_S T_tb [] L1 hl1 L_709 h_710 := hs
  have f_qa := (hs.o gx trivial rfl).2.trans f_qa
  have f_qp := (hs.o gx trivial rfl).2.trans f_qp
  have f_qc := (hs.o gx trivial rfl).2.trans f_qc
  have f_qh := (hs.o gx trivial rfl).2.trans f_qh
  have f_qw := (hs.o gx trivial rfl).2.trans f_qw
  have f_ql := (hs.o g_qw trivial rfl).2.trans f_ql
  have f_m_now := (hs.o gm trivial rfl).1.trans f_m_now
  have f_m_persons := (hs.o gm trivial rfl).1.trans f_m_persons
  have f_m_claims := (hs.o gm trivial rfl).1.trans f_m_claims
  have f_m_lines := (hs.o gm trivial rfl).1.trans f_m_lines
  have f_m_listed := (hs.o gm trivial rfl).1.trans f_m_listed
  have f_m_acts := (hs.o gm trivial rfl).1.trans f_m_acts
  have f_m_heardMany := (hs.o gm trivial rfl).1.trans f_m_heardMany
  have f_x_now := (hs.o gx trivial rfl).1.trans f_x_now
  have f_x_personCount := (hs.o gx trivial rfl).1.trans f_x_personCount
  have f_x_claimCount := (hs.o gx trivial rfl).1.trans f_x_claimCount
  have f_mw := (hs.o gm trivial rfl).2.trans f_mw
  have f_mr := (hs.o gm trivial rfl).2.trans f_mr
  have f_mp := (hs.o gm trivial rfl).2.trans f_mp
  have f_mn := (hs.o gm trivial rfl).2.trans f_mn
  have f_ml := (hs.o gm trivial rfl).2.trans f_ml
  have f_mh := (hs.o gm trivial rfl).2.trans f_mh
  have f_mt := (hs.o gm trivial rfl).2.trans f_mt
  have f_m_fou := (hs.o gm trivial rfl).2.trans f_m_fou
  have f_qo_ln := (hs.o gx trivial rfl).2.trans f_qo_ln
  have f_o_ln := (hs.o g_qo_ln trivial rfl).1.trans f_o_ln
  have f_o_lsd := (hs.o g_qw trivial rfl).1.trans f_o_lsd
  have f_m_lst := (hs.o gm trivial rfl).2.trans f_m_lst
  have f_m_dead := (hs.o gm trivial rfl).2.trans f_m_dead
  have f_m_isj := (hs.o gm trivial rfl).2.trans f_m_isj
  have pf_qa : ∀ j : Nat, (j : Int) < (h_710.2.1 ax 6).toInt → h_710.2.2 qa j ≠ none := by
    intro j hj; rw [(hs.o gx trivial rfl).1] at hj; rw [(hs.a g_qa rfl j).2]; exact pf_qa j hj
  have pf_qp : ∀ j : Nat, (j : Int) < (h_710.2.1 ax 8).toInt → h_710.2.2 qp j ≠ none := by
    intro j hj; rw [(hs.o gx trivial rfl).1] at hj; rw [(hs.a g_qp rfl j).2]; exact pf_qp j hj
  have pf_qc : ∀ j : Nat, (j : Int) < (h_710.2.1 ax 11).toInt → h_710.2.2 qc j ≠ none := by
    intro j hj; rw [(hs.o gx trivial rfl).1] at hj; rw [(hs.a g_qc rfl j).2]; exact pf_qc j hj
  have pf_qh : ∀ j : Nat, (j : Int) < (h_710.2.1 ax 13).toInt → h_710.2.2 qh j ≠ none := by
    intro j hj; rw [(hs.o gx trivial rfl).1] at hj; rw [(hs.a g_qh rfl j).2]; exact pf_qh j hj
  have pf_ql : ∀ j : Nat, (j : Int) < (h_710.2.1 qw 0).toInt → h_710.2.2 ql j ≠ none := by
    intro j hj; rw [(hs.o g_qw trivial rfl).1] at hj; rw [(hs.a g_ql rfl j).2]; exact pf_ql j hj
  have cl_lst : hx_col 8 h_710 ql 0 = c_lst := (hx_col_S hs hTo g_ql tt_40 tt_2 rfl rfl).trans cl_lst
  have cl_dead : hx_col 40 h_710 qp 7 = c_dead := (hx_col_S hs hTo g_qp tt_44 tt_4 rfl rfl).trans cl_dead
  have cl_isj : hx_col 40 h_710 qp 8 = c_isj := (hx_col_S hs hTo g_qp tt_44 tt_4 rfl rfl).trans cl_isj
  have cl_fou : hx_col 100 h_710 qc 10 = c_fou := (hx_col_S hs hTo g_qc tt_45 tt_2 rfl rfl).trans cl_fou
  have cl_tri : hx_col 100 h_710 qc 9 = c_tri := (hx_col_S hs hTo g_qc tt_45 tt_2 rfl rfl).trans cl_tri
  have nu_qp : hx_num 40 h_710 qp 0 (np.toInt) := hx_num_S hs hTo g_qp tt_44 tt_4 rfl rfl nu_qp
  have nu_qc : hx_num 100 h_710 qc 0 (c0.toInt) := hx_num_S hs hTo g_qc tt_45 tt_2 rfl rfl nu_qc
  have sb_list : hx_LQ 8 100 h_710 ql qc := hx_LQ_S hs g_ql g_qc rfl rfl sb_list
  have n_mw : h_710.2.1 mw = F_mw := (funext fun j => (hs.a g_mw rfl j).1).trans n_mw
  have n_mr : h_710.2.1 mr = F_mr := (funext fun j => (hs.a g_mr rfl j).1).trans n_mr
  have n_mp : h_710.2.1 mp = F_mp := (funext fun j => (hs.a g_mp rfl j).1).trans n_mp
  have n_mn : h_710.2.1 mn = F_mn := (funext fun j => (hs.a g_mn rfl j).1).trans n_mn
  have n_ml : h_710.2.1 ml = F_ml := (funext fun j => (hs.a g_ml rfl j).1).trans n_ml
  have n_mh : h_710.2.1 mh = F_mh := (funext fun j => (hs.a g_mh rfl j).1).trans n_mh
  have n_mt : h_710.2.1 mt = F_mt := (funext fun j => (hs.a g_mt rfl j).1).trans n_mt
  have n_m_fou : h_710.2.1 m_fou = F_m_fou := (funext fun j => (hs.a g_m_fou rfl j).1).trans n_m_fou
  have n_lst : h_710.2.1 m_lst = F_lst := (funext fun j => (hs.a g_m_lst rfl j).1).trans n_lst
  have n_dead : h_710.2.1 m_dead = F_dead := (funext fun j => (hs.a g_m_dead rfl j).1).trans n_dead
  have n_isj : h_710.2.1 m_isj = F_isj := (funext fun j => (hs.a g_m_isj rfl j).1).trans n_isj
  have gx := gx.S hs
  have gm := gm.S hs
  have g_qa := g_qa.S hs
  have g_qp := g_qp.S hs
  have g_qc := g_qc.S hs
  have g_qh := g_qh.S hs
  have g_qw := g_qw.S hs
  have g_ql := g_ql.S hs
  have g_mw := g_mw.S hs
  have g_mr := g_mr.S hs
  have g_mp := g_mp.S hs
  have g_mn := g_mn.S hs
  have g_ml := g_ml.S hs
  have g_mh := g_mh.S hs
  have g_mt := g_mt.S hs
  have g_m_fou := g_m_fou.S hs
  have g_qo_ln := g_qo_ln.S hs
  have g_m_lst := g_m_lst.S hs
  have g_m_dead := g_m_dead.S hs
  have g_m_isj := g_m_isj.S hs
  refine lv_pop hx hb dL_law_1337 rfl ?_
  refine lv_aload_n hx hb dL_law_1338 rfl (lv_at hl 1 rfl) ?_
  refine lv_aload_n hx hb dL_law_1339 rfl (lv_at hl 3 rfl) ?_
  refine lv_iload_n hx hb dL_law_1340 rfl (lv_at hl 0 rfl) ?_
  refine lv_iconst (v := 1) hx hb dL_law_1341 (by decide) ?_
  refine lv_iadd hx hb dL_law_1342 ?_
  refine lv_topi (fun x_714 ex_714 => ?_)
  have zx_714 : x_714.toInt = i.toInt + 1 := by rw [ex_714]; exact i32_add rfl (by decide) (by omega) (by omega)
  obtain rfl : x_705 = x_714 := ex_705.trans ex_714.symm
  refine va_sld hx hb hX hbl hbA hW.2.2.2.1 (vp_in_iff.mpr ⟨by omega, by omega⟩) dL_law_1343 ?_
  refine lv_topi (fun x_715 ex_715 => ?_)
  obtain rfl : x_706 = x_715 := ex_706.trans ex_715.symm
  refine lv_aload_n hx hb dL_law_1344 rfl (lv_at hl 3 rfl) ?_
  refine lv_iload_n hx hb dL_law_1345 rfl (lv_at hl 0 rfl) ?_
  refine lv_iconst (v := 2) hx hb dL_law_1346 (by decide) ?_
  refine lv_iadd hx hb dL_law_1347 ?_
  refine lv_topi (fun x_716 ex_716 => ?_)
  have zx_716 : x_716.toInt = i.toInt + 2 := by rw [ex_716]; exact i32_add rfl (by decide) (by omega) (by omega)
  obtain rfl : x_707 = x_716 := ex_707.trans ex_716.symm
  refine va_sld hx hb hX hbl hbA hW.2.2.2.1 (vp_in_iff.mpr ⟨by omega, by omega⟩) dL_law_1348 ?_
  refine lv_topi (fun x_717 ex_717 => ?_)
  obtain rfl : x_708 = x_717 := ex_708.trans ex_717.symm
  have hTo := hT
  refine hx_goi (hx_runV (As := [.int x_706, .int x_708]) (rest := []) ⟨hx, hb, hml, hown, hts⟩ hW gm tt_10 (T := TX10) (N := 98) rfl (t_X10_other l dC dI dA L_709 h_710 H.size am x_706 x_708 hT gm mn g_mn f_mn mp g_mp f_mp F_mn n_mn F_mp n_mp a0 f_m_acts hRP) (cwV 2 hts (hx_gV kw_1749 kw_1746 kw_1747 kw_1748 kw_103) rfl rfl rfl (by decide +kernel) ⟨Nat.le_of_ble_eq_true rfl, Nat.le_of_ble_eq_true rfl⟩) rfl hl.1 rfl (Nat.le_of_ble_eq_true rfl) dL_law_1349 ⟨(show CC + 0 + 0 ≤ 600000 from by omega), (show SS + 0 + 0 ≤ 7302250 from by omega)⟩) hW (fun r_720 L_718 h_719 H locs p_721 hW => ?_)
  obtain ⟨hr_722, hT, hs⟩ := p_721
  have hT : hx_T T_tb L_718 h_719 := hT
  have hs : hx_S T_tb [(99, 0)] L_709 h_710 L_718 h_719 := hs
  have f_qa := (hs.o gx trivial rfl).2.trans f_qa
  have f_qp := (hs.o gx trivial rfl).2.trans f_qp
  have f_qc := (hs.o gx trivial rfl).2.trans f_qc
  have f_qh := (hs.o gx trivial rfl).2.trans f_qh
  have f_qw := (hs.o gx trivial rfl).2.trans f_qw
  have f_ql := (hs.o g_qw trivial rfl).2.trans f_ql
  have f_m_now := (hs.o gm trivial rfl).1.trans f_m_now
  have f_m_persons := (hs.o gm trivial rfl).1.trans f_m_persons
  have f_m_claims := (hs.o gm trivial rfl).1.trans f_m_claims
  have f_m_lines := (hs.o gm trivial rfl).1.trans f_m_lines
  have f_m_listed := (hs.o gm trivial rfl).1.trans f_m_listed
  have f_m_acts := (hs.o gm trivial rfl).1.trans f_m_acts
  have f_m_heardMany := (hs.o gm trivial rfl).1.trans f_m_heardMany
  have f_x_now := (hs.o gx trivial rfl).1.trans f_x_now
  have f_x_personCount := (hs.o gx trivial rfl).1.trans f_x_personCount
  have f_x_claimCount := (hs.o gx trivial rfl).1.trans f_x_claimCount
  have f_mw := (hs.o gm trivial rfl).2.trans f_mw
  have f_mr := (hs.o gm trivial rfl).2.trans f_mr
  have f_mp := (hs.o gm trivial rfl).2.trans f_mp
  have f_mn := (hs.o gm trivial rfl).2.trans f_mn
  have f_ml := (hs.o gm trivial rfl).2.trans f_ml
  have f_mh := (hs.o gm trivial rfl).2.trans f_mh
  have f_mt := (hs.o gm trivial rfl).2.trans f_mt
  have f_m_fou := (hs.o gm trivial rfl).2.trans f_m_fou
  have f_qo_ln := (hs.o gx trivial rfl).2.trans f_qo_ln
  have f_o_ln := (hs.o g_qo_ln trivial rfl).1.trans f_o_ln
  have f_o_lsd := (hs.o g_qw trivial rfl).1.trans f_o_lsd
  have f_m_lst := (hs.o gm trivial rfl).2.trans f_m_lst
  have f_m_dead := (hs.o gm trivial rfl).2.trans f_m_dead
  have f_m_isj := (hs.o gm trivial rfl).2.trans f_m_isj
  have pf_qa : ∀ j : Nat, (j : Int) < (h_719.2.1 ax 6).toInt → h_719.2.2 qa j ≠ none := by
    intro j hj; rw [(hs.o gx trivial rfl).1] at hj; rw [(hs.a g_qa rfl j).2]; exact pf_qa j hj
  have pf_qp : ∀ j : Nat, (j : Int) < (h_719.2.1 ax 8).toInt → h_719.2.2 qp j ≠ none := by
    intro j hj; rw [(hs.o gx trivial rfl).1] at hj; rw [(hs.a g_qp rfl j).2]; exact pf_qp j hj
  have pf_qc : ∀ j : Nat, (j : Int) < (h_719.2.1 ax 11).toInt → h_719.2.2 qc j ≠ none := by
    intro j hj; rw [(hs.o gx trivial rfl).1] at hj; rw [(hs.a g_qc rfl j).2]; exact pf_qc j hj
  have pf_qh : ∀ j : Nat, (j : Int) < (h_719.2.1 ax 13).toInt → h_719.2.2 qh j ≠ none := by
    intro j hj; rw [(hs.o gx trivial rfl).1] at hj; rw [(hs.a g_qh rfl j).2]; exact pf_qh j hj
  have pf_ql : ∀ j : Nat, (j : Int) < (h_719.2.1 qw 0).toInt → h_719.2.2 ql j ≠ none := by
    intro j hj; rw [(hs.o g_qw trivial rfl).1] at hj; rw [(hs.a g_ql rfl j).2]; exact pf_ql j hj
  have cl_lst : hx_col 8 h_719 ql 0 = c_lst := (hx_col_S hs hTo g_ql tt_40 tt_2 rfl rfl).trans cl_lst
  have cl_dead : hx_col 40 h_719 qp 7 = c_dead := (hx_col_S hs hTo g_qp tt_44 tt_4 rfl rfl).trans cl_dead
  have cl_isj : hx_col 40 h_719 qp 8 = c_isj := (hx_col_S hs hTo g_qp tt_44 tt_4 rfl rfl).trans cl_isj
  have cl_fou : hx_col 100 h_719 qc 10 = c_fou := (hx_col_S hs hTo g_qc tt_45 tt_2 rfl rfl).trans cl_fou
  have cl_tri : hx_col 100 h_719 qc 9 = c_tri := (hx_col_S hs hTo g_qc tt_45 tt_2 rfl rfl).trans cl_tri
  have nu_qp : hx_num 40 h_719 qp 0 (np.toInt) := hx_num_S hs hTo g_qp tt_44 tt_4 rfl rfl nu_qp
  have nu_qc : hx_num 100 h_719 qc 0 (c0.toInt) := hx_num_S hs hTo g_qc tt_45 tt_2 rfl rfl nu_qc
  have sb_list : hx_LQ 8 100 h_719 ql qc := hx_LQ_S hs g_ql g_qc rfl rfl sb_list
  have n_mw : h_719.2.1 mw = F_mw := (funext fun j => (hs.a g_mw rfl j).1).trans n_mw
  have n_mr : h_719.2.1 mr = F_mr := (funext fun j => (hs.a g_mr rfl j).1).trans n_mr
  have n_mp : h_719.2.1 mp = F_mp := (funext fun j => (hs.a g_mp rfl j).1).trans n_mp
  have n_mn : h_719.2.1 mn = F_mn := (funext fun j => (hs.a g_mn rfl j).1).trans n_mn
  have n_ml : h_719.2.1 ml = F_ml := (funext fun j => (hs.a g_ml rfl j).1).trans n_ml
  have n_mh : h_719.2.1 mh = F_mh := (funext fun j => (hs.a g_mh rfl j).1).trans n_mh
  have n_mt : h_719.2.1 mt = F_mt := (funext fun j => (hs.a g_mt rfl j).1).trans n_mt
  have n_m_fou : h_719.2.1 m_fou = F_m_fou := (funext fun j => (hs.a g_m_fou rfl j).1).trans n_m_fou
  have n_lst : h_719.2.1 m_lst = F_lst := (funext fun j => (hs.a g_m_lst rfl j).1).trans n_lst
  have n_dead : h_719.2.1 m_dead = F_dead := (funext fun j => (hs.a g_m_dead rfl j).1).trans n_dead
  have n_isj : h_719.2.1 m_isj = F_isj := (funext fun j => (hs.a g_m_isj rfl j).1).trans n_isj
  have gx := gx.S hs
  have gm := gm.S hs
  have g_qa := g_qa.S hs
  have g_qp := g_qp.S hs
  have g_qc := g_qc.S hs
  have g_qh := g_qh.S hs
  have g_qw := g_qw.S hs
  have g_ql := g_ql.S hs
  have g_mw := g_mw.S hs
  have g_mr := g_mr.S hs
  have g_mp := g_mp.S hs
  have g_mn := g_mn.S hs
  have g_ml := g_ml.S hs
  have g_mh := g_mh.S hs
  have g_mt := g_mt.S hs
  have g_m_fou := g_m_fou.S hs
  have g_qo_ln := g_qo_ln.S hs
  have g_m_lst := g_m_lst.S hs
  have g_m_dead := g_m_dead.S hs
  have g_m_isj := g_m_isj.S hs
  refine lv_pop hx hb dL_law_1352 rfl ?_
  refine lv_goto (tgt := 1379) hx hb dL_law_1353 (by decide) ?_
  refine W.widen (k := CC + 3) (n := SS + 179) (by omega) (by omega) ?_
  exact kk L_718 h_719 H locs ls hW ⟨hT, gx, gm, ⟨f_x_now.trans f_m_now.symm, f_x_personCount.trans f_m_persons.symm, f_x_claimCount.trans f_m_claims.symm, hx_ob f_qo_ln (f_o_ln.trans f_m_lines.symm), hx_ob f_qw (f_o_lsd.trans f_m_listed.symm), hx_ob f_qp (by rw [f_x_personCount]; exact nu_qp), hx_ob f_qc (by rw [f_x_claimCount]; exact nu_qc), (fun w q c hw hq hc => by obtain rfl : qw = w := Option.some.inj (f_qw.symm.trans hw); obtain rfl : ql = q := Option.some.inj (f_ql.symm.trans hq); obtain rfl : qc = c := Option.some.inj (f_qc.symm.trans hc); exact sb_list), (fun w q r hw hq hr => by obtain rfl : qw = w := Option.some.inj (f_qw.symm.trans hw); obtain rfl : ql = q := Option.some.inj (f_ql.symm.trans hq); obtain rfl : m_lst = r := Option.some.inj (f_m_lst.symm.trans hr); rw [cl_lst, n_lst]; exact eq_lst), hx_ob2 f_qp f_m_dead (by rw [cl_dead, n_dead]; exact eq_dead), hx_ob2 f_qp f_m_isj (by rw [cl_isj, n_isj]; exact eq_isj), hx_ob2 f_qc f_m_fou (by rw [cl_fou, n_m_fou]; exact eq_fou), hx_ob2 f_qc f_mt (by rw [cl_tri, n_mt]; exact eq_tri), trivial⟩, ⟨hx_ob f_qa pf_qa, hx_ob f_qp pf_qp, hx_ob f_qc pf_qc, hx_ob f_qh pf_qh, (fun w q hw hq => by obtain rfl : qw = w := Option.some.inj (f_qw.symm.trans hw); obtain rfl : ql = q := Option.some.inj (f_ql.symm.trans hq); exact pf_ql)⟩, ⟨hx_ob f_mw (by rw [n_mw]; exact hwd), hx_ob f_mr (by rw [n_mr, f_m_acts]; exact hWK), hx_ob2 f_mp f_mn (by rw [n_mp, n_mn, f_m_acts]; exact hRP), hx_ob f_ml (by rw [n_ml, f_m_claims, f_m_acts]; exact hPL), hx_ob f_mh (by rw [n_mh, f_m_heardMany, f_m_claims]; exact hHC), hx_ob f_mt (by rw [n_mt]; exact (hx_TR_le hTR (by omega))), hx_ob2 f_mh f_m_fou (by rw [n_mh, n_m_fou, f_m_claims]; exact hHF)⟩⟩ hl

set_option maxHeartbeats 4000000 in
set_option maxRecDepth 100000 in
theorem law_case_30 {p : Program} {e : Env} {s : State} {m : MethodId} {below : List Frame} {meth : Method} {c : Code} (l : Launch) {b LN : Nat} {xs : Nat → Int32} (hx : p.tables.exec = Jvm.exec) (hb : c.code = code) (hr : meth.sig.returnType = ret) (hlocks : meth.locks = false) (hml : c.maxLocals = 4) (hown : s.vm.findClass "SmallCourtLaw" = some m.cls) (hts : ∀ w ∈ hx_all, w.before #[Value.ref b] s = true) (hX : va_X b LN xs s s.heap) (hbl : b < s.heap.size) (hbA : ¬ s.heap.size ≤ b) (hLN : LN ≤ 3584) (dC : Nat → ClassId) (dI : Nat → Nat → Nat) (dA : Nat → ClassId) (b0 : hx_z) (ax am : Nat) (T1 : Int) (hT0 : 0 ≤ T1) (hT1 : T1 ≤ 511) (i : Int32) (hi0 : 0 ≤ i.toInt) (hiL : i.toInt + 7 ≤ LN) (CC SS : Nat) (hCC : CC + 3 ≤ 600000) (hSS : SS + 179 ≤ 7302250) (L1 : List Nat) (hl1 : hx_h) (H : Heap) (locs : List Loc) (ls : Array Slot) (hW : hx_W T_tb (P_ty dA) (dC, dI) vwCl (fun q : Nat => s.heap.size ≤ q) s.heap L1 hl1 s H locs) (hZ : hx_Xt (fun q : Nat => s.heap.size ≤ q) b0 s) (hI : hx_IV T1 ax am L1 hl1) (hl : lv_has ls 4 [(3, .int i), (2, .ref am), (1, .ref ax), (0, .ref b)]) (kk : ∀ (L2 : List Nat) (h2 : hx_h) (H2 : Heap) (locs2 : List Loc) (ls2 : Array Slot), hx_W T_tb (P_ty dA) (dC, dI) vwCl (fun q : Nat => s.heap.size ≤ q) s.heap L2 h2 s H2 locs2 → hx_IV (T1 + 1) ax am L2 h2 → lv_has ls2 4 [(3, .int i), (2, .ref am), (1, .ref ax), (0, .ref b)] → W p l e room_1 s m #[Value.ref b] below meth c H2 locs2 (CC + 3) (SS + 179) (lw_Z below #[Value.ref b] s) (F0 m 1379 ls2 [])) : W p l e room_1 s m #[Value.ref b] below meth c H locs CC SS (lw_Z below #[Value.ref b] s) (F0 m 1356 ls []) := by
  obtain ⟨hT, gx, gm, ⟨he_nw, he_np, he_c0, ho_ln, ho_lsd, hn_qp, hn_qc, hLQ, hLE, hc_dead, hc_isj, hc_fou, hc_tri, -⟩, ⟨ia, ip, ic, ih, il⟩, ⟨jw, jr, jp, jl, jh, jt, jf⟩⟩ := hI
  obtain ⟨qa, f_qa, g_qa⟩ := hx_rf hT gx tt_9 (k := 5) (u := 43) rfl
  have pf_qa := ia qa f_qa
  obtain ⟨qp, f_qp, g_qp⟩ := hx_rf hT gx tt_9 (k := 7) (u := 44) rfl
  have pf_qp := ip qp f_qp
  obtain ⟨qc, f_qc, g_qc⟩ := hx_rf hT gx tt_9 (k := 10) (u := 45) rfl
  have pf_qc := ic qc f_qc
  obtain ⟨qh, f_qh, g_qh⟩ := hx_rf hT gx tt_9 (k := 12) (u := 46) rfl
  have pf_qh := ih qh f_qh
  obtain ⟨qw, f_qw, g_qw⟩ := hx_rf hT gx tt_9 (k := 19) (u := 8) rfl
  obtain ⟨ql, f_ql, g_ql⟩ := hx_rf hT g_qw tt_8 (k := 3) (u := 40) rfl
  have pf_ql := il qw ql f_qw f_ql
  obtain ⟨nw, f_m_now⟩ : ∃ y : Int32, hl1.2.1 am 0 = y := ⟨_, rfl⟩
  have b_nw := hT.gi gm tt_10 (k := 0) rfl
  rw [f_m_now] at b_nw
  have b_nw : 0 ≤ nw.toInt ∧ nw.toInt ≤ 7999 := b_nw
  obtain ⟨np, f_m_persons⟩ : ∃ y : Int32, hl1.2.1 am 20 = y := ⟨_, rfl⟩
  have b_np := hT.gi gm tt_10 (k := 20) rfl
  rw [f_m_persons] at b_np
  have b_np : 0 ≤ np.toInt ∧ np.toInt ≤ 40 := b_np
  obtain ⟨c0, f_m_claims⟩ : ∃ y : Int32, hl1.2.1 am 36 = y := ⟨_, rfl⟩
  have b_c0 := hT.gi gm tt_10 (k := 36) rfl
  rw [f_m_claims] at b_c0
  have b_c0 : 0 ≤ c0.toInt ∧ c0.toInt ≤ 100 := b_c0
  obtain ⟨ln, f_m_lines⟩ : ∃ y : Int32, hl1.2.1 am 29 = y := ⟨_, rfl⟩
  have b_ln := hT.gi gm tt_10 (k := 29) rfl
  rw [f_m_lines] at b_ln
  have b_ln : 0 ≤ ln.toInt ∧ ln.toInt ≤ 400 := b_ln
  obtain ⟨lsd, f_m_listed⟩ : ∃ y : Int32, hl1.2.1 am 90 = y := ⟨_, rfl⟩
  have b_lsd := hT.gi gm tt_10 (k := 90) rfl
  rw [f_m_listed] at b_lsd
  have b_lsd : 0 ≤ lsd.toInt ∧ lsd.toInt ≤ 8 := b_lsd
  obtain ⟨a0, f_m_acts⟩ : ∃ y : Int32, hl1.2.1 am 1 = y := ⟨_, rfl⟩
  have b_a0 := hT.gi gm tt_10 (k := 1) rfl
  rw [f_m_acts] at b_a0
  have b_a0 : 0 ≤ a0.toInt ∧ a0.toInt ≤ 8 := b_a0
  obtain ⟨m0, f_m_heardMany⟩ : ∃ y : Int32, hl1.2.1 am 57 = y := ⟨_, rfl⟩
  have b_m0 := hT.gi gm tt_10 (k := 57) rfl
  rw [f_m_heardMany] at b_m0
  have b_m0 : 0 ≤ m0.toInt ∧ m0.toInt ≤ 100 := b_m0
  have f_x_now : hl1.2.1 ax 2 = nw := he_nw.trans f_m_now
  have f_x_personCount : hl1.2.1 ax 8 = np := he_np.trans f_m_persons
  have f_x_claimCount : hl1.2.1 ax 11 = c0 := he_c0.trans f_m_claims
  obtain ⟨mw, f_mw, g_mw⟩ := hx_rf hT gm tt_10 (k := 19) (u := 57) rfl
  obtain ⟨F_mw, n_mw⟩ : ∃ g : Nat → Int32, hl1.2.1 mw = g := ⟨_, rfl⟩
  obtain ⟨mr, f_mr, g_mr⟩ := hx_rf hT gm tt_10 (k := 3) (u := 50) rfl
  obtain ⟨F_mr, n_mr⟩ : ∃ g : Nat → Int32, hl1.2.1 mr = g := ⟨_, rfl⟩
  obtain ⟨mp, f_mp, g_mp⟩ := hx_rf hT gm tt_10 (k := 5) (u := 52) rfl
  obtain ⟨F_mp, n_mp⟩ : ∃ g : Nat → Int32, hl1.2.1 mp = g := ⟨_, rfl⟩
  obtain ⟨mn, f_mn, g_mn⟩ := hx_rf hT gm tt_10 (k := 4) (u := 51) rfl
  obtain ⟨F_mn, n_mn⟩ : ∃ g : Nat → Int32, hl1.2.1 mn = g := ⟨_, rfl⟩
  obtain ⟨ml, f_ml, g_ml⟩ := hx_rf hT gm tt_10 (k := 44) (u := 79) rfl
  obtain ⟨F_ml, n_ml⟩ : ∃ g : Nat → Int32, hl1.2.1 ml = g := ⟨_, rfl⟩
  obtain ⟨mh, f_mh, g_mh⟩ := hx_rf hT gm tt_10 (k := 47) (u := 82) rfl
  obtain ⟨F_mh, n_mh⟩ : ∃ g : Nat → Int32, hl1.2.1 mh = g := ⟨_, rfl⟩
  obtain ⟨mt, f_mt, g_mt⟩ := hx_rf hT gm tt_10 (k := 45) (u := 80) rfl
  obtain ⟨F_mt, n_mt⟩ : ∃ g : Nat → Int32, hl1.2.1 mt = g := ⟨_, rfl⟩
  obtain ⟨m_fou, f_m_fou, g_m_fou⟩ := hx_rf hT gm tt_10 (k := 46) (u := 81) rfl
  obtain ⟨F_m_fou, n_m_fou⟩ : ∃ g : Nat → Int32, hl1.2.1 m_fou = g := ⟨_, rfl⟩
  obtain ⟨qo_ln, f_qo_ln, g_qo_ln⟩ := hx_rf hT gx tt_9 (k := 9) (u := 1) rfl
  have f_o_ln : hl1.2.1 qo_ln 0 = ln := (ho_ln qo_ln f_qo_ln).trans f_m_lines
  have f_o_lsd : hl1.2.1 qw 0 = lsd := (ho_lsd qw f_qw).trans f_m_listed
  have nu_qp := hn_qp qp f_qp; rw [f_x_personCount] at nu_qp
  have nu_qc := hn_qc qc f_qc; rw [f_x_claimCount] at nu_qc
  have sb_list := hLQ qw ql qc f_qw f_ql f_qc
  obtain ⟨m_lst, f_m_lst, g_m_lst⟩ := hx_rf hT gm tt_10 (k := 91) (u := 112) rfl
  obtain ⟨F_lst, n_lst⟩ : ∃ g : Nat → Int32, hl1.2.1 m_lst = g := ⟨_, rfl⟩
  obtain ⟨c_lst, cl_lst⟩ : ∃ g : Nat → Int32, hx_col 8 hl1 ql 0 = g := ⟨_, rfl⟩
  have eq_lst := hLE qw ql m_lst f_qw f_ql f_m_lst; rw [cl_lst, n_lst] at eq_lst
  obtain ⟨c_dead, cl_dead⟩ : ∃ g : Nat → Int32, hx_col 40 hl1 qp 7 = g := ⟨_, rfl⟩
  obtain ⟨m_dead, f_m_dead, g_m_dead⟩ := hx_rf hT gm tt_10 (k := 27) (u := 64) rfl
  obtain ⟨F_dead, n_dead⟩ : ∃ g : Nat → Int32, hl1.2.1 m_dead = g := ⟨_, rfl⟩
  have eq_dead := hc_dead qp m_dead f_qp f_m_dead; rw [cl_dead, n_dead] at eq_dead
  have z_dead : np.toInt.toNat < 40 → c_dead np.toInt.toNat = 0 := fun hj => hx_num_z nu_qp cl_dead hj (by omega)
  obtain ⟨c_isj, cl_isj⟩ : ∃ g : Nat → Int32, hx_col 40 hl1 qp 8 = g := ⟨_, rfl⟩
  obtain ⟨m_isj, f_m_isj, g_m_isj⟩ := hx_rf hT gm tt_10 (k := 28) (u := 65) rfl
  obtain ⟨F_isj, n_isj⟩ : ∃ g : Nat → Int32, hl1.2.1 m_isj = g := ⟨_, rfl⟩
  have eq_isj := hc_isj qp m_isj f_qp f_m_isj; rw [cl_isj, n_isj] at eq_isj
  have z_isj : np.toInt.toNat < 40 → c_isj np.toInt.toNat = 0 := fun hj => hx_num_z nu_qp cl_isj hj (by omega)
  obtain ⟨c_fou, cl_fou⟩ : ∃ g : Nat → Int32, hx_col 100 hl1 qc 10 = g := ⟨_, rfl⟩
  have eq_fou := hc_fou qc m_fou f_qc f_m_fou; rw [cl_fou, n_m_fou] at eq_fou
  have z_fou : c0.toInt.toNat < 100 → c_fou c0.toInt.toNat = 0 := fun hj => hx_num_z nu_qc cl_fou hj (by omega)
  obtain ⟨c_tri, cl_tri⟩ : ∃ g : Nat → Int32, hx_col 100 hl1 qc 9 = g := ⟨_, rfl⟩
  have eq_tri := hc_tri qc mt f_qc f_mt; rw [cl_tri, n_mt] at eq_tri
  have z_tri : c0.toInt.toNat < 100 → c_tri c0.toInt.toNat = 0 := fun hj => hx_num_z nu_qc cl_tri hj (by omega)
  have hwd := jw mw f_mw; rw [n_mw] at hwd
  have hWK := jr mr f_mr; rw [n_mr, f_m_acts] at hWK
  have hRP := jp mp mn f_mp f_mn; rw [n_mp, n_mn, f_m_acts] at hRP
  have hPL := jl ml f_ml; rw [n_ml, f_m_claims, f_m_acts] at hPL
  have hHC := jh mh f_mh; rw [n_mh, f_m_heardMany, f_m_claims] at hHC
  have hTR := jt mt f_mt; rw [n_mt] at hTR
  have hHF := jf mh m_fou f_mh f_m_fou; rw [n_mh, n_m_fou, f_m_claims] at hHF
  refine lv_aload_n hx hb dL_law_1356 rfl (lv_at hl 2 rfl) ?_
  refine lv_aload_n hx hb dL_law_1357 rfl (lv_at hl 3 rfl) ?_
  refine lv_iload_n hx hb dL_law_1358 rfl (lv_at hl 0 rfl) ?_
  refine lv_iconst (v := 1) hx hb dL_law_1359 (by decide) ?_
  refine lv_iadd hx hb dL_law_1360 ?_
  have rg_723 := i32_r i
  refine lv_topi (fun x_724 ex_724 => ?_)
  have zx_724 : x_724.toInt = i.toInt + 1 := by rw [ex_724]; exact i32_add rfl (by decide) (by omega) (by omega)
  refine va_sld hx hb hX hbl hbA hW.2.2.2.1 (vp_in_iff.mpr ⟨by omega, by omega⟩) dL_law_1361 ?_
  refine lv_topi (fun x_725 ex_725 => ?_)
  have hTo := hT
  refine hx_goi (hx_runV (As := [.int x_725]) (rest := []) ⟨hx, hb, hml, hown, hts⟩ hW gx tt_9 (T := TX9) (N := 20) rfl (t_X9_count l dC dI dA L1 hl1 H.size ax x_725 hT gx qp g_qp f_qp pf_qp) (cwV 1 hts (hx_gV kw_1108 kw_1105 kw_1106 kw_1107 kw_94) rfl rfl rfl (by decide +kernel) ⟨Nat.le_of_ble_eq_true rfl, Nat.le_of_ble_eq_true rfl⟩) rfl hl.1 rfl (Nat.le_of_ble_eq_true rfl) dL_law_1362 ⟨(show CC + 0 ≤ 600000 from by omega), (show SS + 0 ≤ 7302250 from by omega)⟩) hW (fun r_728 L_726 h_727 H locs p_729 hW => ?_)
  obtain ⟨hr_730, hT, hs⟩ := p_729
  have hT : hx_T T_tb L_726 h_727 := hT
  have hs : hx_S T_tb [] L1 hl1 L_726 h_727 := hs
  have f_qa := (hs.o gx trivial rfl).2.trans f_qa
  have f_qp := (hs.o gx trivial rfl).2.trans f_qp
  have f_qc := (hs.o gx trivial rfl).2.trans f_qc
  have f_qh := (hs.o gx trivial rfl).2.trans f_qh
  have f_qw := (hs.o gx trivial rfl).2.trans f_qw
  have f_ql := (hs.o g_qw trivial rfl).2.trans f_ql
  have f_m_now := (hs.o gm trivial rfl).1.trans f_m_now
  have f_m_persons := (hs.o gm trivial rfl).1.trans f_m_persons
  have f_m_claims := (hs.o gm trivial rfl).1.trans f_m_claims
  have f_m_lines := (hs.o gm trivial rfl).1.trans f_m_lines
  have f_m_listed := (hs.o gm trivial rfl).1.trans f_m_listed
  have f_m_acts := (hs.o gm trivial rfl).1.trans f_m_acts
  have f_m_heardMany := (hs.o gm trivial rfl).1.trans f_m_heardMany
  have f_x_now := (hs.o gx trivial rfl).1.trans f_x_now
  have f_x_personCount := (hs.o gx trivial rfl).1.trans f_x_personCount
  have f_x_claimCount := (hs.o gx trivial rfl).1.trans f_x_claimCount
  have f_mw := (hs.o gm trivial rfl).2.trans f_mw
  have f_mr := (hs.o gm trivial rfl).2.trans f_mr
  have f_mp := (hs.o gm trivial rfl).2.trans f_mp
  have f_mn := (hs.o gm trivial rfl).2.trans f_mn
  have f_ml := (hs.o gm trivial rfl).2.trans f_ml
  have f_mh := (hs.o gm trivial rfl).2.trans f_mh
  have f_mt := (hs.o gm trivial rfl).2.trans f_mt
  have f_m_fou := (hs.o gm trivial rfl).2.trans f_m_fou
  have f_qo_ln := (hs.o gx trivial rfl).2.trans f_qo_ln
  have f_o_ln := (hs.o g_qo_ln trivial rfl).1.trans f_o_ln
  have f_o_lsd := (hs.o g_qw trivial rfl).1.trans f_o_lsd
  have f_m_lst := (hs.o gm trivial rfl).2.trans f_m_lst
  have f_m_dead := (hs.o gm trivial rfl).2.trans f_m_dead
  have f_m_isj := (hs.o gm trivial rfl).2.trans f_m_isj
  have pf_qa : ∀ j : Nat, (j : Int) < (h_727.2.1 ax 6).toInt → h_727.2.2 qa j ≠ none := by
    intro j hj; rw [(hs.o gx trivial rfl).1] at hj; rw [(hs.a g_qa rfl j).2]; exact pf_qa j hj
  have pf_qp : ∀ j : Nat, (j : Int) < (h_727.2.1 ax 8).toInt → h_727.2.2 qp j ≠ none := by
    intro j hj; rw [(hs.o gx trivial rfl).1] at hj; rw [(hs.a g_qp rfl j).2]; exact pf_qp j hj
  have pf_qc : ∀ j : Nat, (j : Int) < (h_727.2.1 ax 11).toInt → h_727.2.2 qc j ≠ none := by
    intro j hj; rw [(hs.o gx trivial rfl).1] at hj; rw [(hs.a g_qc rfl j).2]; exact pf_qc j hj
  have pf_qh : ∀ j : Nat, (j : Int) < (h_727.2.1 ax 13).toInt → h_727.2.2 qh j ≠ none := by
    intro j hj; rw [(hs.o gx trivial rfl).1] at hj; rw [(hs.a g_qh rfl j).2]; exact pf_qh j hj
  have pf_ql : ∀ j : Nat, (j : Int) < (h_727.2.1 qw 0).toInt → h_727.2.2 ql j ≠ none := by
    intro j hj; rw [(hs.o g_qw trivial rfl).1] at hj; rw [(hs.a g_ql rfl j).2]; exact pf_ql j hj
  have cl_lst : hx_col 8 h_727 ql 0 = c_lst := (hx_col_S hs hTo g_ql tt_40 tt_2 rfl rfl).trans cl_lst
  have cl_dead : hx_col 40 h_727 qp 7 = c_dead := (hx_col_S hs hTo g_qp tt_44 tt_4 rfl rfl).trans cl_dead
  have cl_isj : hx_col 40 h_727 qp 8 = c_isj := (hx_col_S hs hTo g_qp tt_44 tt_4 rfl rfl).trans cl_isj
  have cl_fou : hx_col 100 h_727 qc 10 = c_fou := (hx_col_S hs hTo g_qc tt_45 tt_2 rfl rfl).trans cl_fou
  have cl_tri : hx_col 100 h_727 qc 9 = c_tri := (hx_col_S hs hTo g_qc tt_45 tt_2 rfl rfl).trans cl_tri
  have nu_qp : hx_num 40 h_727 qp 0 (np.toInt) := hx_num_S hs hTo g_qp tt_44 tt_4 rfl rfl nu_qp
  have nu_qc : hx_num 100 h_727 qc 0 (c0.toInt) := hx_num_S hs hTo g_qc tt_45 tt_2 rfl rfl nu_qc
  have sb_list : hx_LQ 8 100 h_727 ql qc := hx_LQ_S hs g_ql g_qc rfl rfl sb_list
  have n_mw : h_727.2.1 mw = F_mw := (funext fun j => (hs.a g_mw rfl j).1).trans n_mw
  have n_mr : h_727.2.1 mr = F_mr := (funext fun j => (hs.a g_mr rfl j).1).trans n_mr
  have n_mp : h_727.2.1 mp = F_mp := (funext fun j => (hs.a g_mp rfl j).1).trans n_mp
  have n_mn : h_727.2.1 mn = F_mn := (funext fun j => (hs.a g_mn rfl j).1).trans n_mn
  have n_ml : h_727.2.1 ml = F_ml := (funext fun j => (hs.a g_ml rfl j).1).trans n_ml
  have n_mh : h_727.2.1 mh = F_mh := (funext fun j => (hs.a g_mh rfl j).1).trans n_mh
  have n_mt : h_727.2.1 mt = F_mt := (funext fun j => (hs.a g_mt rfl j).1).trans n_mt
  have n_m_fou : h_727.2.1 m_fou = F_m_fou := (funext fun j => (hs.a g_m_fou rfl j).1).trans n_m_fou
  have n_lst : h_727.2.1 m_lst = F_lst := (funext fun j => (hs.a g_m_lst rfl j).1).trans n_lst
  have n_dead : h_727.2.1 m_dead = F_dead := (funext fun j => (hs.a g_m_dead rfl j).1).trans n_dead
  have n_isj : h_727.2.1 m_isj = F_isj := (funext fun j => (hs.a g_m_isj rfl j).1).trans n_isj
  have gx := gx.S hs
  have gm := gm.S hs
  have g_qa := g_qa.S hs
  have g_qp := g_qp.S hs
  have g_qc := g_qc.S hs
  have g_qh := g_qh.S hs
  have g_qw := g_qw.S hs
  have g_ql := g_ql.S hs
  have g_mw := g_mw.S hs
  have g_mr := g_mr.S hs
  have g_mp := g_mp.S hs
  have g_mn := g_mn.S hs
  have g_ml := g_ml.S hs
  have g_mh := g_mh.S hs
  have g_mt := g_mt.S hs
  have g_m_fou := g_m_fou.S hs
  have g_qo_ln := g_qo_ln.S hs
  have g_m_lst := g_m_lst.S hs
  have g_m_dead := g_m_dead.S hs
  have g_m_isj := g_m_isj.S hs
  refine lv_pop hx hb dL_law_1365 rfl ?_
  refine lv_aload_n hx hb dL_law_1366 rfl (lv_at hl 1 rfl) ?_
  refine lv_aload_n hx hb dL_law_1367 rfl (lv_at hl 3 rfl) ?_
  refine lv_iload_n hx hb dL_law_1368 rfl (lv_at hl 0 rfl) ?_
  refine lv_iconst (v := 1) hx hb dL_law_1369 (by decide) ?_
  refine lv_iadd hx hb dL_law_1370 ?_
  refine lv_topi (fun x_731 ex_731 => ?_)
  have zx_731 : x_731.toInt = i.toInt + 1 := by rw [ex_731]; exact i32_add rfl (by decide) (by omega) (by omega)
  obtain rfl : x_724 = x_731 := ex_724.trans ex_731.symm
  refine va_sld hx hb hX hbl hbA hW.2.2.2.1 (vp_in_iff.mpr ⟨by omega, by omega⟩) dL_law_1371 ?_
  refine lv_topi (fun x_732 ex_732 => ?_)
  obtain rfl : x_725 = x_732 := ex_725.trans ex_732.symm
  have hTo := hT
  refine hx_goi (hx_runV (As := [.int x_725]) (rest := []) ⟨hx, hb, hml, hown, hts⟩ hW gm tt_10 (T := TX10) (N := 98) rfl (t_X10_count l dC dI dA L_726 h_727 H.size am x_725 hT gm) (cwV 1 hts (hx_gV kw_1753 kw_1750 kw_1751 kw_1752 kw_103) rfl rfl rfl (by decide +kernel) ⟨Nat.le_of_ble_eq_true rfl, Nat.le_of_ble_eq_true rfl⟩) rfl hl.1 rfl (Nat.le_of_ble_eq_true rfl) dL_law_1372 ⟨(show CC + 0 + 0 ≤ 600000 from by omega), (show SS + 0 + 0 ≤ 7302250 from by omega)⟩) hW (fun r_735 L_733 h_734 H locs p_736 hW => ?_)
  obtain ⟨hr_737, hT, hs⟩ := p_736
  have hT : hx_T T_tb L_733 h_734 := hT
  have hs : hx_S T_tb [] L_726 h_727 L_733 h_734 := hs
  have f_qa := (hs.o gx trivial rfl).2.trans f_qa
  have f_qp := (hs.o gx trivial rfl).2.trans f_qp
  have f_qc := (hs.o gx trivial rfl).2.trans f_qc
  have f_qh := (hs.o gx trivial rfl).2.trans f_qh
  have f_qw := (hs.o gx trivial rfl).2.trans f_qw
  have f_ql := (hs.o g_qw trivial rfl).2.trans f_ql
  have f_m_now := (hs.o gm trivial rfl).1.trans f_m_now
  have f_m_persons := (hs.o gm trivial rfl).1.trans f_m_persons
  have f_m_claims := (hs.o gm trivial rfl).1.trans f_m_claims
  have f_m_lines := (hs.o gm trivial rfl).1.trans f_m_lines
  have f_m_listed := (hs.o gm trivial rfl).1.trans f_m_listed
  have f_m_acts := (hs.o gm trivial rfl).1.trans f_m_acts
  have f_m_heardMany := (hs.o gm trivial rfl).1.trans f_m_heardMany
  have f_x_now := (hs.o gx trivial rfl).1.trans f_x_now
  have f_x_personCount := (hs.o gx trivial rfl).1.trans f_x_personCount
  have f_x_claimCount := (hs.o gx trivial rfl).1.trans f_x_claimCount
  have f_mw := (hs.o gm trivial rfl).2.trans f_mw
  have f_mr := (hs.o gm trivial rfl).2.trans f_mr
  have f_mp := (hs.o gm trivial rfl).2.trans f_mp
  have f_mn := (hs.o gm trivial rfl).2.trans f_mn
  have f_ml := (hs.o gm trivial rfl).2.trans f_ml
  have f_mh := (hs.o gm trivial rfl).2.trans f_mh
  have f_mt := (hs.o gm trivial rfl).2.trans f_mt
  have f_m_fou := (hs.o gm trivial rfl).2.trans f_m_fou
  have f_qo_ln := (hs.o gx trivial rfl).2.trans f_qo_ln
  have f_o_ln := (hs.o g_qo_ln trivial rfl).1.trans f_o_ln
  have f_o_lsd := (hs.o g_qw trivial rfl).1.trans f_o_lsd
  have f_m_lst := (hs.o gm trivial rfl).2.trans f_m_lst
  have f_m_dead := (hs.o gm trivial rfl).2.trans f_m_dead
  have f_m_isj := (hs.o gm trivial rfl).2.trans f_m_isj
  have pf_qa : ∀ j : Nat, (j : Int) < (h_734.2.1 ax 6).toInt → h_734.2.2 qa j ≠ none := by
    intro j hj; rw [(hs.o gx trivial rfl).1] at hj; rw [(hs.a g_qa rfl j).2]; exact pf_qa j hj
  have pf_qp : ∀ j : Nat, (j : Int) < (h_734.2.1 ax 8).toInt → h_734.2.2 qp j ≠ none := by
    intro j hj; rw [(hs.o gx trivial rfl).1] at hj; rw [(hs.a g_qp rfl j).2]; exact pf_qp j hj
  have pf_qc : ∀ j : Nat, (j : Int) < (h_734.2.1 ax 11).toInt → h_734.2.2 qc j ≠ none := by
    intro j hj; rw [(hs.o gx trivial rfl).1] at hj; rw [(hs.a g_qc rfl j).2]; exact pf_qc j hj
  have pf_qh : ∀ j : Nat, (j : Int) < (h_734.2.1 ax 13).toInt → h_734.2.2 qh j ≠ none := by
    intro j hj; rw [(hs.o gx trivial rfl).1] at hj; rw [(hs.a g_qh rfl j).2]; exact pf_qh j hj
  have pf_ql : ∀ j : Nat, (j : Int) < (h_734.2.1 qw 0).toInt → h_734.2.2 ql j ≠ none := by
    intro j hj; rw [(hs.o g_qw trivial rfl).1] at hj; rw [(hs.a g_ql rfl j).2]; exact pf_ql j hj
  have cl_lst : hx_col 8 h_734 ql 0 = c_lst := (hx_col_S hs hTo g_ql tt_40 tt_2 rfl rfl).trans cl_lst
  have cl_dead : hx_col 40 h_734 qp 7 = c_dead := (hx_col_S hs hTo g_qp tt_44 tt_4 rfl rfl).trans cl_dead
  have cl_isj : hx_col 40 h_734 qp 8 = c_isj := (hx_col_S hs hTo g_qp tt_44 tt_4 rfl rfl).trans cl_isj
  have cl_fou : hx_col 100 h_734 qc 10 = c_fou := (hx_col_S hs hTo g_qc tt_45 tt_2 rfl rfl).trans cl_fou
  have cl_tri : hx_col 100 h_734 qc 9 = c_tri := (hx_col_S hs hTo g_qc tt_45 tt_2 rfl rfl).trans cl_tri
  have nu_qp : hx_num 40 h_734 qp 0 (np.toInt) := hx_num_S hs hTo g_qp tt_44 tt_4 rfl rfl nu_qp
  have nu_qc : hx_num 100 h_734 qc 0 (c0.toInt) := hx_num_S hs hTo g_qc tt_45 tt_2 rfl rfl nu_qc
  have sb_list : hx_LQ 8 100 h_734 ql qc := hx_LQ_S hs g_ql g_qc rfl rfl sb_list
  have n_mw : h_734.2.1 mw = F_mw := (funext fun j => (hs.a g_mw rfl j).1).trans n_mw
  have n_mr : h_734.2.1 mr = F_mr := (funext fun j => (hs.a g_mr rfl j).1).trans n_mr
  have n_mp : h_734.2.1 mp = F_mp := (funext fun j => (hs.a g_mp rfl j).1).trans n_mp
  have n_mn : h_734.2.1 mn = F_mn := (funext fun j => (hs.a g_mn rfl j).1).trans n_mn
  have n_ml : h_734.2.1 ml = F_ml := (funext fun j => (hs.a g_ml rfl j).1).trans n_ml
  have n_mh : h_734.2.1 mh = F_mh := (funext fun j => (hs.a g_mh rfl j).1).trans n_mh
  have n_mt : h_734.2.1 mt = F_mt := (funext fun j => (hs.a g_mt rfl j).1).trans n_mt
  have n_m_fou : h_734.2.1 m_fou = F_m_fou := (funext fun j => (hs.a g_m_fou rfl j).1).trans n_m_fou
  have n_lst : h_734.2.1 m_lst = F_lst := (funext fun j => (hs.a g_m_lst rfl j).1).trans n_lst
  have n_dead : h_734.2.1 m_dead = F_dead := (funext fun j => (hs.a g_m_dead rfl j).1).trans n_dead
  have n_isj : h_734.2.1 m_isj = F_isj := (funext fun j => (hs.a g_m_isj rfl j).1).trans n_isj
  have gx := gx.S hs
  have gm := gm.S hs
  have g_qa := g_qa.S hs
  have g_qp := g_qp.S hs
  have g_qc := g_qc.S hs
  have g_qh := g_qh.S hs
  have g_qw := g_qw.S hs
  have g_ql := g_ql.S hs
  have g_mw := g_mw.S hs
  have g_mr := g_mr.S hs
  have g_mp := g_mp.S hs
  have g_mn := g_mn.S hs
  have g_ml := g_ml.S hs
  have g_mh := g_mh.S hs
  have g_mt := g_mt.S hs
  have g_m_fou := g_m_fou.S hs
  have g_qo_ln := g_qo_ln.S hs
  have g_m_lst := g_m_lst.S hs
  have g_m_dead := g_m_dead.S hs
  have g_m_isj := g_m_isj.S hs
  refine lv_pop hx hb dL_law_1375 rfl ?_
  refine lv_goto (tgt := 1379) hx hb dL_law_1376 (by decide) ?_
  refine W.widen (k := CC + 3) (n := SS + 179) (by omega) (by omega) ?_
  exact kk L_733 h_734 H locs ls hW ⟨hT, gx, gm, ⟨f_x_now.trans f_m_now.symm, f_x_personCount.trans f_m_persons.symm, f_x_claimCount.trans f_m_claims.symm, hx_ob f_qo_ln (f_o_ln.trans f_m_lines.symm), hx_ob f_qw (f_o_lsd.trans f_m_listed.symm), hx_ob f_qp (by rw [f_x_personCount]; exact nu_qp), hx_ob f_qc (by rw [f_x_claimCount]; exact nu_qc), (fun w q c hw hq hc => by obtain rfl : qw = w := Option.some.inj (f_qw.symm.trans hw); obtain rfl : ql = q := Option.some.inj (f_ql.symm.trans hq); obtain rfl : qc = c := Option.some.inj (f_qc.symm.trans hc); exact sb_list), (fun w q r hw hq hr => by obtain rfl : qw = w := Option.some.inj (f_qw.symm.trans hw); obtain rfl : ql = q := Option.some.inj (f_ql.symm.trans hq); obtain rfl : m_lst = r := Option.some.inj (f_m_lst.symm.trans hr); rw [cl_lst, n_lst]; exact eq_lst), hx_ob2 f_qp f_m_dead (by rw [cl_dead, n_dead]; exact eq_dead), hx_ob2 f_qp f_m_isj (by rw [cl_isj, n_isj]; exact eq_isj), hx_ob2 f_qc f_m_fou (by rw [cl_fou, n_m_fou]; exact eq_fou), hx_ob2 f_qc f_mt (by rw [cl_tri, n_mt]; exact eq_tri), trivial⟩, ⟨hx_ob f_qa pf_qa, hx_ob f_qp pf_qp, hx_ob f_qc pf_qc, hx_ob f_qh pf_qh, (fun w q hw hq => by obtain rfl : qw = w := Option.some.inj (f_qw.symm.trans hw); obtain rfl : ql = q := Option.some.inj (f_ql.symm.trans hq); exact pf_ql)⟩, ⟨hx_ob f_mw (by rw [n_mw]; exact hwd), hx_ob f_mr (by rw [n_mr, f_m_acts]; exact hWK), hx_ob2 f_mp f_mn (by rw [n_mp, n_mn, f_m_acts]; exact hRP), hx_ob f_ml (by rw [n_ml, f_m_claims, f_m_acts]; exact hPL), hx_ob f_mh (by rw [n_mh, f_m_heardMany, f_m_claims]; exact hHC), hx_ob f_mt (by rw [n_mt]; exact (hx_TR_le hTR (by omega))), hx_ob2 f_mh f_m_fou (by rw [n_mh, n_m_fou, f_m_claims]; exact hHF)⟩⟩ hl
