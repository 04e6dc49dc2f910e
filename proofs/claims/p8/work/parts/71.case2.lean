set_option maxHeartbeats 4000000 in
set_option maxRecDepth 100000 in
theorem law_case_16 {p : Program} {e : Env} {s : State} {m : MethodId} {below : List Frame} {meth : Method} {c : Code} (l : Launch) {b LN : Nat} {xs : Nat → Int32} (hx : p.tables.exec = Jvm.exec) (hb : c.code = code) (hr : meth.sig.returnType = ret) (hlocks : meth.locks = false) (hml : c.maxLocals = 4) (hown : s.vm.findClass "SmallCourtLaw" = some m.cls) (hts : ∀ w ∈ hx_all, w.before #[Value.ref b] s = true) (hX : va_X b LN xs s s.heap) (hbl : b < s.heap.size) (hbA : ¬ s.heap.size ≤ b) (hLN : LN ≤ 3584) (dC : Nat → ClassId) (dI : Nat → Nat → Nat) (dA : Nat → ClassId) (b0 : hx_z) (ax am : Nat) (T1 : Int) (hT0 : 0 ≤ T1) (hT1 : T1 ≤ 511) (i : Int32) (hi0 : 0 ≤ i.toInt) (hiL : i.toInt + 7 ≤ LN) (CC SS : Nat) (hCC : CC + 3 ≤ 600000) (hSS : SS + 179 ≤ 7302250) (L1 : List Nat) (hl1 : hx_h) (H : Heap) (locs : List Loc) (ls : Array Slot) (hW : hx_W T_tb (P_ty dA) (dC, dI) vwCl (fun q : Nat => s.heap.size ≤ q) s.heap L1 hl1 s H locs) (hZ : hx_Xt (fun q : Nat => s.heap.size ≤ q) b0 s) (hI : hx_IV T1 ax am L1 hl1) (hl : lv_has ls 4 [(3, .int i), (2, .ref am), (1, .ref ax), (0, .ref b)]) (kk : ∀ (L2 : List Nat) (h2 : hx_h) (H2 : Heap) (locs2 : List Loc) (ls2 : Array Slot), hx_W T_tb (P_ty dA) (dC, dI) vwCl (fun q : Nat => s.heap.size ≤ q) s.heap L2 h2 s H2 locs2 → hx_IV (T1 + 1) ax am L2 h2 → lv_has ls2 4 [(3, .int i), (2, .ref am), (1, .ref ax), (0, .ref b)] → W p l e room_1 s m #[Value.ref b] below meth c H2 locs2 (CC + 3) (SS + 179) (lw_Z below #[Value.ref b] s) (F0 m 1379 ls2 [])) : W p l e room_1 s m #[Value.ref b] below meth c H locs CC SS (lw_Z below #[Value.ref b] s) (F0 m 964 ls []) := by
  obtain ⟨hT, gx, gm, ⟨he_nw, he_np, he_c0, ho_ln, ho_lsd, hn_qp, hn_qc, hLQ, hLE, hc_dead, hc_isj, hc_fou, hc_tri, -⟩, ⟨ia, ip, ic, ih, il⟩, ⟨jw, jr, jp, jl, jh, jt, jf⟩⟩ := hI
  obtain ⟨qa, f_qa, g_qa⟩ := hx_rf hT gx tt_9 (k := 5) (u := 43) rfl
  have pf_qa := ia qa f_qa
  obtain ⟨qp, f_qp, g_qp⟩ := hx_rf hT gx tt_9 (k := 7) (u := 44) rfl
  have pf_qp := ip qp f_qp
  obtain ⟨qc, f_qc, g_qc⟩ := hx_rf hT gx tt_9 (k := 10) (u := 45) rfl
  have pf_qc := ic qc f_qc
  obtain ⟨qh, f_qh, g_qh⟩ := hx_rf hT gx tt_9 (k := 12) (u := 46) rfl
  have pf_qh := ih qh f_qh
  obtain ⟨qw, f_qw, g_qw⟩ := hx_rf hT gx tt_9 (k := 19) (u := 8) rfl
  obtain ⟨ql, f_ql, g_ql⟩ := hx_rf hT g_qw tt_8 (k := 3) (u := 40) rfl
  have pf_ql := il qw ql f_qw f_ql
  obtain ⟨nw, f_m_now⟩ : ∃ y : Int32, hl1.2.1 am 0 = y := ⟨_, rfl⟩
  have b_nw := hT.gi gm tt_10 (k := 0) rfl
  rw [f_m_now] at b_nw
  have b_nw : 0 ≤ nw.toInt ∧ nw.toInt ≤ 7999 := b_nw
  obtain ⟨np, f_m_persons⟩ : ∃ y : Int32, hl1.2.1 am 20 = y := ⟨_, rfl⟩
  have b_np := hT.gi gm tt_10 (k := 20) rfl
  rw [f_m_persons] at b_np
  have b_np : 0 ≤ np.toInt ∧ np.toInt ≤ 40 := b_np
  obtain ⟨c0, f_m_claims⟩ : ∃ y : Int32, hl1.2.1 am 36 = y := ⟨_, rfl⟩
  have b_c0 := hT.gi gm tt_10 (k := 36) rfl
  rw [f_m_claims] at b_c0
  have b_c0 : 0 ≤ c0.toInt ∧ c0.toInt ≤ 100 := b_c0
  obtain ⟨ln, f_m_lines⟩ : ∃ y : Int32, hl1.2.1 am 29 = y := ⟨_, rfl⟩
  have b_ln := hT.gi gm tt_10 (k := 29) rfl
  rw [f_m_lines] at b_ln
  have b_ln : 0 ≤ ln.toInt ∧ ln.toInt ≤ 400 := b_ln
  obtain ⟨lsd, f_m_listed⟩ : ∃ y : Int32, hl1.2.1 am 90 = y := ⟨_, rfl⟩
  have b_lsd := hT.gi gm tt_10 (k := 90) rfl
  rw [f_m_listed] at b_lsd
  have b_lsd : 0 ≤ lsd.toInt ∧ lsd.toInt ≤ 8 := b_lsd
  obtain ⟨a0, f_m_acts⟩ : ∃ y : Int32, hl1.2.1 am 1 = y := ⟨_, rfl⟩
  have b_a0 := hT.gi gm tt_10 (k := 1) rfl
  rw [f_m_acts] at b_a0
  have b_a0 : 0 ≤ a0.toInt ∧ a0.toInt ≤ 8 := b_a0
  obtain ⟨m0, f_m_heardMany⟩ : ∃ y : Int32, hl1.2.1 am 57 = y := ⟨_, rfl⟩
  have b_m0 := hT.gi gm tt_10 (k := 57) rfl
  rw [f_m_heardMany] at b_m0
  have b_m0 : 0 ≤ m0.toInt ∧ m0.toInt ≤ 100 := b_m0
  have f_x_now : hl1.2.1 ax 2 = nw := he_nw.trans f_m_now
  have f_x_personCount : hl1.2.1 ax 8 = np := he_np.trans f_m_persons
  have f_x_claimCount : hl1.2.1 ax 11 = c0 := he_c0.trans f_m_claims
  obtain ⟨mw, f_mw, g_mw⟩ := hx_rf hT gm tt_10 (k := 19) (u := 57) rfl
  obtain ⟨F_mw, n_mw⟩ : ∃ g : Nat → Int32, hl1.2.1 mw = g := ⟨_, rfl⟩
  obtain ⟨mr, f_mr, g_mr⟩ := hx_rf hT gm tt_10 (k := 3) (u := 50) rfl
  obtain ⟨F_mr, n_mr⟩ : ∃ g : Nat → Int32, hl1.2.1 mr = g := ⟨_, rfl⟩
  obtain ⟨mp, f_mp, g_mp⟩ := hx_rf hT gm tt_10 (k := 5) (u := 52) rfl
  obtain ⟨F_mp, n_mp⟩ : ∃ g : Nat → Int32, hl1.2.1 mp = g := ⟨_, rfl⟩
  obtain ⟨mn, f_mn, g_mn⟩ := hx_rf hT gm tt_10 (k := 4) (u := 51) rfl
  obtain ⟨F_mn, n_mn⟩ : ∃ g : Nat → Int32, hl1.2.1 mn = g := ⟨_, rfl⟩
  obtain ⟨ml, f_ml, g_ml⟩ := hx_rf hT gm tt_10 (k := 44) (u := 79) rfl
  obtain ⟨F_ml, n_ml⟩ : ∃ g : Nat → Int32, hl1.2.1 ml = g := ⟨_, rfl⟩
  obtain ⟨mh, f_mh, g_mh⟩ := hx_rf hT gm tt_10 (k := 47) (u := 82) rfl
  obtain ⟨F_mh, n_mh⟩ : ∃ g : Nat → Int32, hl1.2.1 mh = g := ⟨_, rfl⟩
  obtain ⟨mt, f_mt, g_mt⟩ := hx_rf hT gm tt_10 (k := 45) (u := 80) rfl
  obtain ⟨F_mt, n_mt⟩ : ∃ g : Nat → Int32, hl1.2.1 mt = g := ⟨_, rfl⟩
  obtain ⟨m_fou, f_m_fou, g_m_fou⟩ := hx_rf hT gm tt_10 (k := 46) (u := 81) rfl
  obtain ⟨F_m_fou, n_m_fou⟩ : ∃ g : Nat → Int32, hl1.2.1 m_fou = g := ⟨_, rfl⟩
  obtain ⟨qo_ln, f_qo_ln, g_qo_ln⟩ := hx_rf hT gx tt_9 (k := 9) (u := 1) rfl
  have f_o_ln : hl1.2.1 qo_ln 0 = ln := (ho_ln qo_ln f_qo_ln).trans f_m_lines
  have f_o_lsd : hl1.2.1 qw 0 = lsd := (ho_lsd qw f_qw).trans f_m_listed
  have nu_qp := hn_qp qp f_qp; rw [f_x_personCount] at nu_qp
  have nu_qc := hn_qc qc f_qc; rw [f_x_claimCount] at nu_qc
  have sb_list := hLQ qw ql qc f_qw f_ql f_qc
  obtain ⟨m_lst, f_m_lst, g_m_lst⟩ := hx_rf hT gm tt_10 (k := 91) (u := 112) rfl
  obtain ⟨F_lst, n_lst⟩ : ∃ g : Nat → Int32, hl1.2.1 m_lst = g := ⟨_, rfl⟩
  obtain ⟨c_lst, cl_lst⟩ : ∃ g : Nat → Int32, hx_col 8 hl1 ql 0 = g := ⟨_, rfl⟩
  have eq_lst := hLE qw ql m_lst f_qw f_ql f_m_lst; rw [cl_lst, n_lst] at eq_lst
  obtain ⟨c_dead, cl_dead⟩ : ∃ g : Nat → Int32, hx_col 40 hl1 qp 7 = g := ⟨_, rfl⟩
  obtain ⟨m_dead, f_m_dead, g_m_dead⟩ := hx_rf hT gm tt_10 (k := 27) (u := 64) rfl
  obtain ⟨F_dead, n_dead⟩ : ∃ g : Nat → Int32, hl1.2.1 m_dead = g := ⟨_, rfl⟩
  have eq_dead := hc_dead qp m_dead f_qp f_m_dead; rw [cl_dead, n_dead] at eq_dead
  have z_dead : np.toInt.toNat < 40 → c_dead np.toInt.toNat = 0 := fun hj => hx_num_z nu_qp cl_dead hj (by omega)
  obtain ⟨c_isj, cl_isj⟩ : ∃ g : Nat → Int32, hx_col 40 hl1 qp 8 = g := ⟨_, rfl⟩
  obtain ⟨m_isj, f_m_isj, g_m_isj⟩ := hx_rf hT gm tt_10 (k := 28) (u := 65) rfl
  obtain ⟨F_isj, n_isj⟩ : ∃ g : Nat → Int32, hl1.2.1 m_isj = g := ⟨_, rfl⟩
  have eq_isj := hc_isj qp m_isj f_qp f_m_isj; rw [cl_isj, n_isj] at eq_isj
  have z_isj : np.toInt.toNat < 40 → c_isj np.toInt.toNat = 0 := fun hj => hx_num_z nu_qp cl_isj hj (by omega)
  obtain ⟨c_fou, cl_fou⟩ : ∃ g : Nat → Int32, hx_col 100 hl1 qc 10 = g := ⟨_, rfl⟩
  have eq_fou := hc_fou qc m_fou f_qc f_m_fou; rw [cl_fou, n_m_fou] at eq_fou
  have z_fou : c0.toInt.toNat < 100 → c_fou c0.toInt.toNat = 0 := fun hj => hx_num_z nu_qc cl_fou hj (by omega)
  obtain ⟨c_tri, cl_tri⟩ : ∃ g : Nat → Int32, hx_col 100 hl1 qc 9 = g := ⟨_, rfl⟩
  have eq_tri := hc_tri qc mt f_qc f_mt; rw [cl_tri, n_mt] at eq_tri
  have z_tri : c0.toInt.toNat < 100 → c_tri c0.toInt.toNat = 0 := fun hj => hx_num_z nu_qc cl_tri hj (by omega)
  have hwd := jw mw f_mw; rw [n_mw] at hwd
  have hWK := jr mr f_mr; rw [n_mr, f_m_acts] at hWK
  have hRP := jp mp mn f_mp f_mn; rw [n_mp, n_mn, f_m_acts] at hRP
  have hPL := jl ml f_ml; rw [n_ml, f_m_claims, f_m_acts] at hPL
  have hHC := jh mh f_mh; rw [n_mh, f_m_heardMany, f_m_claims] at hHC
  have hTR := jt mt f_mt; rw [n_mt] at hTR
  have hHF := jf mh m_fou f_mh f_m_fou; rw [n_mh, n_m_fou, f_m_claims] at hHF
  refine lv_aload_n hx hb dL_law_964 rfl (lv_at hl 2 rfl) ?_
  refine lv_aload_n hx hb dL_law_965 rfl (lv_at hl 3 rfl) ?_
  refine lv_iload_n hx hb dL_law_966 rfl (lv_at hl 0 rfl) ?_
  refine lv_iconst (v := 1) hx hb dL_law_967 (by decide) ?_
  refine lv_iadd hx hb dL_law_968 ?_
  have rg_442 := i32_r i
  refine lv_topi (fun x_443 ex_443 => ?_)
  have zx_443 : x_443.toInt = i.toInt + 1 := by rw [ex_443]; exact i32_add rfl (by decide) (by omega) (by omega)
  refine va_sld hx hb hX hbl hbA hW.2.2.2.1 (vp_in_iff.mpr ⟨by omega, by omega⟩) dL_law_969 ?_
  refine lv_topi (fun x_444 ex_444 => ?_)
  have hTo := hT
  refine hx_goi (hx_runV (As := [.int x_444]) (rest := []) ⟨hx, hb, hml, hown, hts⟩ hW gx tt_9 (T := TX9) (N := 20) rfl (t_X9_strike l dC dI dA L1 hl1 H.size ax x_444 hT gx) (cwV 1 hts (hx_gV kw_899 kw_896 kw_897 kw_898 kw_94) rfl rfl rfl (by decide +kernel) ⟨Nat.le_of_ble_eq_true rfl, Nat.le_of_ble_eq_true rfl⟩) rfl hl.1 rfl (Nat.le_of_ble_eq_true rfl) dL_law_970 ⟨(show CC + 0 ≤ 600000 from by omega), (show SS + 0 ≤ 7302250 from by omega)⟩) hW (fun r_447 L_445 h_446 H locs p_448 hW => ?_)
  obtain ⟨hr_449, hT, hs⟩ := p_448
  have hT : hx_T T_tb L_445 h_446 := hT
  have hs : hx_S T_tb [(22, 0)] L1 hl1 L_445 h_446 := hs
  have f_qa := (hs.o gx trivial rfl).2.trans f_qa
  have f_qp := (hs.o gx trivial rfl).2.trans f_qp
  have f_qc := (hs.o gx trivial rfl).2.trans f_qc
  have f_qh := (hs.o gx trivial rfl).2.trans f_qh
  have f_qw := (hs.o gx trivial rfl).2.trans f_qw
  have f_ql := (hs.o g_qw trivial rfl).2.trans f_ql
  have f_m_now := (hs.o gm trivial rfl).1.trans f_m_now
  have f_m_persons := (hs.o gm trivial rfl).1.trans f_m_persons
  have f_m_claims := (hs.o gm trivial rfl).1.trans f_m_claims
  have f_m_lines := (hs.o gm trivial rfl).1.trans f_m_lines
  have f_m_listed := (hs.o gm trivial rfl).1.trans f_m_listed
  have f_m_acts := (hs.o gm trivial rfl).1.trans f_m_acts
  have f_m_heardMany := (hs.o gm trivial rfl).1.trans f_m_heardMany
  have f_x_now := (hs.o gx trivial rfl).1.trans f_x_now
  have f_x_personCount := (hs.o gx trivial rfl).1.trans f_x_personCount
  have f_x_claimCount := (hs.o gx trivial rfl).1.trans f_x_claimCount
  have f_mw := (hs.o gm trivial rfl).2.trans f_mw
  have f_mr := (hs.o gm trivial rfl).2.trans f_mr
  have f_mp := (hs.o gm trivial rfl).2.trans f_mp
  have f_mn := (hs.o gm trivial rfl).2.trans f_mn
  have f_ml := (hs.o gm trivial rfl).2.trans f_ml
  have f_mh := (hs.o gm trivial rfl).2.trans f_mh
  have f_mt := (hs.o gm trivial rfl).2.trans f_mt
  have f_m_fou := (hs.o gm trivial rfl).2.trans f_m_fou
  have f_qo_ln := (hs.o gx trivial rfl).2.trans f_qo_ln
  have f_o_ln := (hs.o g_qo_ln trivial rfl).1.trans f_o_ln
  have f_o_lsd := (hs.o g_qw trivial rfl).1.trans f_o_lsd
  have f_m_lst := (hs.o gm trivial rfl).2.trans f_m_lst
  have f_m_dead := (hs.o gm trivial rfl).2.trans f_m_dead
  have f_m_isj := (hs.o gm trivial rfl).2.trans f_m_isj
  have pf_qa : ∀ j : Nat, (j : Int) < (h_446.2.1 ax 6).toInt → h_446.2.2 qa j ≠ none := by
    intro j hj; rw [(hs.o gx trivial rfl).1] at hj; rw [(hs.a g_qa rfl j).2]; exact pf_qa j hj
  have pf_qp : ∀ j : Nat, (j : Int) < (h_446.2.1 ax 8).toInt → h_446.2.2 qp j ≠ none := by
    intro j hj; rw [(hs.o gx trivial rfl).1] at hj; rw [(hs.a g_qp rfl j).2]; exact pf_qp j hj
  have pf_qc : ∀ j : Nat, (j : Int) < (h_446.2.1 ax 11).toInt → h_446.2.2 qc j ≠ none := by
    intro j hj; rw [(hs.o gx trivial rfl).1] at hj; rw [(hs.a g_qc rfl j).2]; exact pf_qc j hj
  have pf_qh : ∀ j : Nat, (j : Int) < (h_446.2.1 ax 13).toInt → h_446.2.2 qh j ≠ none := by
    intro j hj; rw [(hs.o gx trivial rfl).1] at hj; rw [(hs.a g_qh rfl j).2]; exact pf_qh j hj
  have pf_ql : ∀ j : Nat, (j : Int) < (h_446.2.1 qw 0).toInt → h_446.2.2 ql j ≠ none := by
    intro j hj; rw [(hs.o g_qw trivial rfl).1] at hj; rw [(hs.a g_ql rfl j).2]; exact pf_ql j hj
  have cl_lst : hx_col 8 h_446 ql 0 = c_lst := (hx_col_S hs hTo g_ql tt_40 tt_2 rfl rfl).trans cl_lst
  have cl_dead : hx_col 40 h_446 qp 7 = c_dead := (hx_col_S hs hTo g_qp tt_44 tt_4 rfl rfl).trans cl_dead
  have cl_isj : hx_col 40 h_446 qp 8 = c_isj := (hx_col_S hs hTo g_qp tt_44 tt_4 rfl rfl).trans cl_isj
  have cl_fou : hx_col 100 h_446 qc 10 = c_fou := (hx_col_S hs hTo g_qc tt_45 tt_2 rfl rfl).trans cl_fou
  have cl_tri : hx_col 100 h_446 qc 9 = c_tri := (hx_col_S hs hTo g_qc tt_45 tt_2 rfl rfl).trans cl_tri
  have nu_qp : hx_num 40 h_446 qp 0 (np.toInt) := hx_num_S hs hTo g_qp tt_44 tt_4 rfl rfl nu_qp
  have nu_qc : hx_num 100 h_446 qc 0 (c0.toInt) := hx_num_S hs hTo g_qc tt_45 tt_2 rfl rfl nu_qc
  have sb_list : hx_LQ 8 100 h_446 ql qc := hx_LQ_S hs g_ql g_qc rfl rfl sb_list
  have n_mw : h_446.2.1 mw = F_mw := (funext fun j => (hs.a g_mw rfl j).1).trans n_mw
  have n_mr : h_446.2.1 mr = F_mr := (funext fun j => (hs.a g_mr rfl j).1).trans n_mr
  have n_mp : h_446.2.1 mp = F_mp := (funext fun j => (hs.a g_mp rfl j).1).trans n_mp
  have n_mn : h_446.2.1 mn = F_mn := (funext fun j => (hs.a g_mn rfl j).1).trans n_mn
  have n_ml : h_446.2.1 ml = F_ml := (funext fun j => (hs.a g_ml rfl j).1).trans n_ml
  have n_mh : h_446.2.1 mh = F_mh := (funext fun j => (hs.a g_mh rfl j).1).trans n_mh
  have n_mt : h_446.2.1 mt = F_mt := (funext fun j => (hs.a g_mt rfl j).1).trans n_mt
  have n_m_fou : h_446.2.1 m_fou = F_m_fou := (funext fun j => (hs.a g_m_fou rfl j).1).trans n_m_fou
  have n_lst : h_446.2.1 m_lst = F_lst := (funext fun j => (hs.a g_m_lst rfl j).1).trans n_lst
  have n_dead : h_446.2.1 m_dead = F_dead := (funext fun j => (hs.a g_m_dead rfl j).1).trans n_dead
  have n_isj : h_446.2.1 m_isj = F_isj := (funext fun j => (hs.a g_m_isj rfl j).1).trans n_isj
  have gx := gx.S hs
  have gm := gm.S hs
  have g_qa := g_qa.S hs
  have g_qp := g_qp.S hs
  have g_qc := g_qc.S hs
  have g_qh := g_qh.S hs
  have g_qw := g_qw.S hs
  have g_ql := g_ql.S hs
  have g_mw := g_mw.S hs
  have g_mr := g_mr.S hs
  have g_mp := g_mp.S hs
  have g_mn := g_mn.S hs
  have g_ml := g_ml.S hs
  have g_mh := g_mh.S hs
  have g_mt := g_mt.S hs
  have g_m_fou := g_m_fou.S hs
  have g_qo_ln := g_qo_ln.S hs
  have g_m_lst := g_m_lst.S hs
  have g_m_dead := g_m_dead.S hs
  have g_m_isj := g_m_isj.S hs
  refine lv_pop hx hb dL_law_973 rfl ?_
  refine lv_aload_n hx hb dL_law_974 rfl (lv_at hl 1 rfl) ?_
  refine lv_aload_n hx hb dL_law_975 rfl (lv_at hl 3 rfl) ?_
  refine lv_iload_n hx hb dL_law_976 rfl (lv_at hl 0 rfl) ?_
  refine lv_iconst (v := 1) hx hb dL_law_977 (by decide) ?_
  refine lv_iadd hx hb dL_law_978 ?_
  refine lv_topi (fun x_450 ex_450 => ?_)
  have zx_450 : x_450.toInt = i.toInt + 1 := by rw [ex_450]; exact i32_add rfl (by decide) (by omega) (by omega)
  obtain rfl : x_443 = x_450 := ex_443.trans ex_450.symm
  refine va_sld hx hb hX hbl hbA hW.2.2.2.1 (vp_in_iff.mpr ⟨by omega, by omega⟩) dL_law_979 ?_
  refine lv_topi (fun x_451 ex_451 => ?_)
  obtain rfl : x_444 = x_451 := ex_444.trans ex_451.symm
  have hTo := hT
  refine hx_goi (hx_runV (As := [.int x_444]) (rest := []) ⟨hx, hb, hml, hown, hts⟩ hW gm tt_10 (T := TX10) (N := 98) rfl (t_X10_strike l dC dI dA L_445 h_446 H.size am x_444 hT gm) (cwV 1 hts (hx_gV kw_1657 kw_1654 kw_1655 kw_1656 kw_103) rfl rfl rfl (by decide +kernel) ⟨Nat.le_of_ble_eq_true rfl, Nat.le_of_ble_eq_true rfl⟩) rfl hl.1 rfl (Nat.le_of_ble_eq_true rfl) dL_law_980 ⟨(show CC + 0 + 0 ≤ 600000 from by omega), (show SS + 0 + 0 ≤ 7302250 from by omega)⟩) hW (fun r_454 L_452 h_453 H locs p_455 hW => ?_)
  obtain ⟨hr_456, hT, hs⟩ := p_455
  have hT : hx_T T_tb L_452 h_453 := hT
  have hs : hx_S T_tb [(97, 0)] L_445 h_446 L_452 h_453 := hs
  have f_qa := (hs.o gx trivial rfl).2.trans f_qa
  have f_qp := (hs.o gx trivial rfl).2.trans f_qp
  have f_qc := (hs.o gx trivial rfl).2.trans f_qc
  have f_qh := (hs.o gx trivial rfl).2.trans f_qh
  have f_qw := (hs.o gx trivial rfl).2.trans f_qw
  have f_ql := (hs.o g_qw trivial rfl).2.trans f_ql
  have f_m_now := (hs.o gm trivial rfl).1.trans f_m_now
  have f_m_persons := (hs.o gm trivial rfl).1.trans f_m_persons
  have f_m_claims := (hs.o gm trivial rfl).1.trans f_m_claims
  have f_m_lines := (hs.o gm trivial rfl).1.trans f_m_lines
  have f_m_listed := (hs.o gm trivial rfl).1.trans f_m_listed
  have f_m_acts := (hs.o gm trivial rfl).1.trans f_m_acts
  have f_m_heardMany := (hs.o gm trivial rfl).1.trans f_m_heardMany
  have f_x_now := (hs.o gx trivial rfl).1.trans f_x_now
  have f_x_personCount := (hs.o gx trivial rfl).1.trans f_x_personCount
  have f_x_claimCount := (hs.o gx trivial rfl).1.trans f_x_claimCount
  have f_mw := (hs.o gm trivial rfl).2.trans f_mw
  have f_mr := (hs.o gm trivial rfl).2.trans f_mr
  have f_mp := (hs.o gm trivial rfl).2.trans f_mp
  have f_mn := (hs.o gm trivial rfl).2.trans f_mn
  have f_ml := (hs.o gm trivial rfl).2.trans f_ml
  have f_mh := (hs.o gm trivial rfl).2.trans f_mh
  have f_mt := (hs.o gm trivial rfl).2.trans f_mt
  have f_m_fou := (hs.o gm trivial rfl).2.trans f_m_fou
  have f_qo_ln := (hs.o gx trivial rfl).2.trans f_qo_ln
  have f_o_ln := (hs.o g_qo_ln trivial rfl).1.trans f_o_ln
  have f_o_lsd := (hs.o g_qw trivial rfl).1.trans f_o_lsd
  have f_m_lst := (hs.o gm trivial rfl).2.trans f_m_lst
  have f_m_dead := (hs.o gm trivial rfl).2.trans f_m_dead
  have f_m_isj := (hs.o gm trivial rfl).2.trans f_m_isj
  have pf_qa : ∀ j : Nat, (j : Int) < (h_453.2.1 ax 6).toInt → h_453.2.2 qa j ≠ none := by
    intro j hj; rw [(hs.o gx trivial rfl).1] at hj; rw [(hs.a g_qa rfl j).2]; exact pf_qa j hj
  have pf_qp : ∀ j : Nat, (j : Int) < (h_453.2.1 ax 8).toInt → h_453.2.2 qp j ≠ none := by
    intro j hj; rw [(hs.o gx trivial rfl).1] at hj; rw [(hs.a g_qp rfl j).2]; exact pf_qp j hj
  have pf_qc : ∀ j : Nat, (j : Int) < (h_453.2.1 ax 11).toInt → h_453.2.2 qc j ≠ none := by
    intro j hj; rw [(hs.o gx trivial rfl).1] at hj; rw [(hs.a g_qc rfl j).2]; exact pf_qc j hj
  have pf_qh : ∀ j : Nat, (j : Int) < (h_453.2.1 ax 13).toInt → h_453.2.2 qh j ≠ none := by
    intro j hj; rw [(hs.o gx trivial rfl).1] at hj; rw [(hs.a g_qh rfl j).2]; exact pf_qh j hj
  have pf_ql : ∀ j : Nat, (j : Int) < (h_453.2.1 qw 0).toInt → h_453.2.2 ql j ≠ none := by
    intro j hj; rw [(hs.o g_qw trivial rfl).1] at hj; rw [(hs.a g_ql rfl j).2]; exact pf_ql j hj
  have cl_lst : hx_col 8 h_453 ql 0 = c_lst := (hx_col_S hs hTo g_ql tt_40 tt_2 rfl rfl).trans cl_lst
  have cl_dead : hx_col 40 h_453 qp 7 = c_dead := (hx_col_S hs hTo g_qp tt_44 tt_4 rfl rfl).trans cl_dead
  have cl_isj : hx_col 40 h_453 qp 8 = c_isj := (hx_col_S hs hTo g_qp tt_44 tt_4 rfl rfl).trans cl_isj
  have cl_fou : hx_col 100 h_453 qc 10 = c_fou := (hx_col_S hs hTo g_qc tt_45 tt_2 rfl rfl).trans cl_fou
  have cl_tri : hx_col 100 h_453 qc 9 = c_tri := (hx_col_S hs hTo g_qc tt_45 tt_2 rfl rfl).trans cl_tri
  have nu_qp : hx_num 40 h_453 qp 0 (np.toInt) := hx_num_S hs hTo g_qp tt_44 tt_4 rfl rfl nu_qp
  have nu_qc : hx_num 100 h_453 qc 0 (c0.toInt) := hx_num_S hs hTo g_qc tt_45 tt_2 rfl rfl nu_qc
  have sb_list : hx_LQ 8 100 h_453 ql qc := hx_LQ_S hs g_ql g_qc rfl rfl sb_list
  have n_mw : h_453.2.1 mw = F_mw := (funext fun j => (hs.a g_mw rfl j).1).trans n_mw
  have n_mr : h_453.2.1 mr = F_mr := (funext fun j => (hs.a g_mr rfl j).1).trans n_mr
  have n_mp : h_453.2.1 mp = F_mp := (funext fun j => (hs.a g_mp rfl j).1).trans n_mp
  have n_mn : h_453.2.1 mn = F_mn := (funext fun j => (hs.a g_mn rfl j).1).trans n_mn
  have n_ml : h_453.2.1 ml = F_ml := (funext fun j => (hs.a g_ml rfl j).1).trans n_ml
  have n_mh : h_453.2.1 mh = F_mh := (funext fun j => (hs.a g_mh rfl j).1).trans n_mh
  have n_mt : h_453.2.1 mt = F_mt := (funext fun j => (hs.a g_mt rfl j).1).trans n_mt
  have n_m_fou : h_453.2.1 m_fou = F_m_fou := (funext fun j => (hs.a g_m_fou rfl j).1).trans n_m_fou
  have n_lst : h_453.2.1 m_lst = F_lst := (funext fun j => (hs.a g_m_lst rfl j).1).trans n_lst
  have n_dead : h_453.2.1 m_dead = F_dead := (funext fun j => (hs.a g_m_dead rfl j).1).trans n_dead
  have n_isj : h_453.2.1 m_isj = F_isj := (funext fun j => (hs.a g_m_isj rfl j).1).trans n_isj
  have gx := gx.S hs
  have gm := gm.S hs
  have g_qa := g_qa.S hs
  have g_qp := g_qp.S hs
  have g_qc := g_qc.S hs
  have g_qh := g_qh.S hs
  have g_qw := g_qw.S hs
  have g_ql := g_ql.S hs
  have g_mw := g_mw.S hs
  have g_mr := g_mr.S hs
  have g_mp := g_mp.S hs
  have g_mn := g_mn.S hs
  have g_ml := g_ml.S hs
  have g_mh := g_mh.S hs
  have g_mt := g_mt.S hs
  have g_m_fou := g_m_fou.S hs
  have g_qo_ln := g_qo_ln.S hs
  have g_m_lst := g_m_lst.S hs
  have g_m_dead := g_m_dead.S hs
  have g_m_isj := g_m_isj.S hs
  refine lv_pop hx hb dL_law_983 rfl ?_
  refine lv_goto (tgt := 1379) hx hb dL_law_984 (by decide) ?_
  refine W.widen (k := CC + 3) (n := SS + 179) (by omega) (by omega) ?_
  exact kk L_452 h_453 H locs ls hW ⟨hT, gx, gm, ⟨f_x_now.trans f_m_now.symm, f_x_personCount.trans f_m_persons.symm, f_x_claimCount.trans f_m_claims.symm, hx_ob f_qo_ln (f_o_ln.trans f_m_lines.symm), hx_ob f_qw (f_o_lsd.trans f_m_listed.symm), hx_ob f_qp (by rw [f_x_personCount]; exact nu_qp), hx_ob f_qc (by rw [f_x_claimCount]; exact nu_qc), (fun w q c hw hq hc => by obtain rfl : qw = w := Option.some.inj (f_qw.symm.trans hw); obtain rfl : ql = q := Option.some.inj (f_ql.symm.trans hq); obtain rfl : qc = c := Option.some.inj (f_qc.symm.trans hc); exact sb_list), (fun w q r hw hq hr => by obtain rfl : qw = w := Option.some.inj (f_qw.symm.trans hw); obtain rfl : ql = q := Option.some.inj (f_ql.symm.trans hq); obtain rfl : m_lst = r := Option.some.inj (f_m_lst.symm.trans hr); rw [cl_lst, n_lst]; exact eq_lst), hx_ob2 f_qp f_m_dead (by rw [cl_dead, n_dead]; exact eq_dead), hx_ob2 f_qp f_m_isj (by rw [cl_isj, n_isj]; exact eq_isj), hx_ob2 f_qc f_m_fou (by rw [cl_fou, n_m_fou]; exact eq_fou), hx_ob2 f_qc f_mt (by rw [cl_tri, n_mt]; exact eq_tri), trivial⟩, ⟨hx_ob f_qa pf_qa, hx_ob f_qp pf_qp, hx_ob f_qc pf_qc, hx_ob f_qh pf_qh, (fun w q hw hq => by obtain rfl : qw = w := Option.some.inj (f_qw.symm.trans hw); obtain rfl : ql = q := Option.some.inj (f_ql.symm.trans hq); exact pf_ql)⟩, ⟨hx_ob f_mw (by rw [n_mw]; exact hwd), hx_ob f_mr (by rw [n_mr, f_m_acts]; exact hWK), hx_ob2 f_mp f_mn (by rw [n_mp, n_mn, f_m_acts]; exact hRP), hx_ob f_ml (by rw [n_ml, f_m_claims, f_m_acts]; exact hPL), hx_ob f_mh (by rw [n_mh, f_m_heardMany, f_m_claims]; exact hHC), hx_ob f_mt (by rw [n_mt]; exact (hx_TR_le hTR (by omega))), hx_ob2 f_mh f_m_fou (by rw [n_mh, n_m_fou, f_m_claims]; exact hHF)⟩⟩ hl

set_option maxHeartbeats 4000000 in
set_option maxRecDepth 100000 in
theorem law_case_17 {p : Program} {e : Env} {s : State} {m : MethodId} {below : List Frame} {meth : Method} {c : Code} (l : Launch) {b LN : Nat} {xs : Nat → Int32} (hx : p.tables.exec = Jvm.exec) (hb : c.code = code) (hr : meth.sig.returnType = ret) (hlocks : meth.locks = false) (hml : c.maxLocals = 4) (hown : s.vm.findClass "SmallCourtLaw" = some m.cls) (hts : ∀ w ∈ hx_all, w.before #[Value.ref b] s = true) (hX : va_X b LN xs s s.heap) (hbl : b < s.heap.size) (hbA : ¬ s.heap.size ≤ b) (hLN : LN ≤ 3584) (dC : Nat → ClassId) (dI : Nat → Nat → Nat) (dA : Nat → ClassId) (b0 : hx_z) (ax am : Nat) (T1 : Int) (hT0 : 0 ≤ T1) (hT1 : T1 ≤ 511) (i : Int32) (hi0 : 0 ≤ i.toInt) (hiL : i.toInt + 7 ≤ LN) (CC SS : Nat) (hCC : CC + 3 ≤ 600000) (hSS : SS + 179 ≤ 7302250) (L1 : List Nat) (hl1 : hx_h) (H : Heap) (locs : List Loc) (ls : Array Slot) (hW : hx_W T_tb (P_ty dA) (dC, dI) vwCl (fun q : Nat => s.heap.size ≤ q) s.heap L1 hl1 s H locs) (hZ : hx_Xt (fun q : Nat => s.heap.size ≤ q) b0 s) (hI : hx_IV T1 ax am L1 hl1) (hl : lv_has ls 4 [(3, .int i), (2, .ref am), (1, .ref ax), (0, .ref b)]) (kk : ∀ (L2 : List Nat) (h2 : hx_h) (H2 : Heap) (locs2 : List Loc) (ls2 : Array Slot), hx_W T_tb (P_ty dA) (dC, dI) vwCl (fun q : Nat => s.heap.size ≤ q) s.heap L2 h2 s H2 locs2 → hx_IV (T1 + 1) ax am L2 h2 → lv_has ls2 4 [(3, .int i), (2, .ref am), (1, .ref ax), (0, .ref b)] → W p l e room_1 s m #[Value.ref b] below meth c H2 locs2 (CC + 3) (SS + 179) (lw_Z below #[Value.ref b] s) (F0 m 1379 ls2 [])) : W p l e room_1 s m #[Value.ref b] below meth c H locs CC SS (lw_Z below #[Value.ref b] s) (F0 m 987 ls []) := by
  obtain ⟨hT, gx, gm, ⟨he_nw, he_np, he_c0, ho_ln, ho_lsd, hn_qp, hn_qc, hLQ, hLE, hc_dead, hc_isj, hc_fou, hc_tri, -⟩, ⟨ia, ip, ic, ih, il⟩, ⟨jw, jr, jp, jl, jh, jt, jf⟩⟩ := hI
  obtain ⟨qa, f_qa, g_qa⟩ := hx_rf hT gx tt_9 (k := 5) (u := 43) rfl
  have pf_qa := ia qa f_qa
  obtain ⟨qp, f_qp, g_qp⟩ := hx_rf hT gx tt_9 (k := 7) (u := 44) rfl
  have pf_qp := ip qp f_qp
  obtain ⟨qc, f_qc, g_qc⟩ := hx_rf hT gx tt_9 (k := 10) (u := 45) rfl
  have pf_qc := ic qc f_qc
  obtain ⟨qh, f_qh, g_qh⟩ := hx_rf hT gx tt_9 (k := 12) (u := 46) rfl
  have pf_qh := ih qh f_qh
  obtain ⟨qw, f_qw, g_qw⟩ := hx_rf hT gx tt_9 (k := 19) (u := 8) rfl
  obtain ⟨ql, f_ql, g_ql⟩ := hx_rf hT g_qw tt_8 (k := 3) (u := 40) rfl
  have pf_ql := il qw ql f_qw f_ql
  obtain ⟨nw, f_m_now⟩ : ∃ y : Int32, hl1.2.1 am 0 = y := ⟨_, rfl⟩
  have b_nw := hT.gi gm tt_10 (k := 0) rfl
  rw [f_m_now] at b_nw
  have b_nw : 0 ≤ nw.toInt ∧ nw.toInt ≤ 7999 := b_nw
  obtain ⟨np, f_m_persons⟩ : ∃ y : Int32, hl1.2.1 am 20 = y := ⟨_, rfl⟩
  have b_np := hT.gi gm tt_10 (k := 20) rfl
  rw [f_m_persons] at b_np
  have b_np : 0 ≤ np.toInt ∧ np.toInt ≤ 40 := b_np
  obtain ⟨c0, f_m_claims⟩ : ∃ y : Int32, hl1.2.1 am 36 = y := ⟨_, rfl⟩
  have b_c0 := hT.gi gm tt_10 (k := 36) rfl
  rw [f_m_claims] at b_c0
  have b_c0 : 0 ≤ c0.toInt ∧ c0.toInt ≤ 100 := b_c0
  obtain ⟨ln, f_m_lines⟩ : ∃ y : Int32, hl1.2.1 am 29 = y := ⟨_, rfl⟩
  have b_ln := hT.gi gm tt_10 (k := 29) rfl
  rw [f_m_lines] at b_ln
  have b_ln : 0 ≤ ln.toInt ∧ ln.toInt ≤ 400 := b_ln
  obtain ⟨lsd, f_m_listed⟩ : ∃ y : Int32, hl1.2.1 am 90 = y := ⟨_, rfl⟩
  have b_lsd := hT.gi gm tt_10 (k := 90) rfl
  rw [f_m_listed] at b_lsd
  have b_lsd : 0 ≤ lsd.toInt ∧ lsd.toInt ≤ 8 := b_lsd
  obtain ⟨a0, f_m_acts⟩ : ∃ y : Int32, hl1.2.1 am 1 = y := ⟨_, rfl⟩
  have b_a0 := hT.gi gm tt_10 (k := 1) rfl
  rw [f_m_acts] at b_a0
  have b_a0 : 0 ≤ a0.toInt ∧ a0.toInt ≤ 8 := b_a0
  obtain ⟨m0, f_m_heardMany⟩ : ∃ y : Int32, hl1.2.1 am 57 = y := ⟨_, rfl⟩
  have b_m0 := hT.gi gm tt_10 (k := 57) rfl
  rw [f_m_heardMany] at b_m0
  have b_m0 : 0 ≤ m0.toInt ∧ m0.toInt ≤ 100 := b_m0
  have f_x_now : hl1.2.1 ax 2 = nw := he_nw.trans f_m_now
  have f_x_personCount : hl1.2.1 ax 8 = np := he_np.trans f_m_persons
  have f_x_claimCount : hl1.2.1 ax 11 = c0 := he_c0.trans f_m_claims
  obtain ⟨mw, f_mw, g_mw⟩ := hx_rf hT gm tt_10 (k := 19) (u := 57) rfl
  obtain ⟨F_mw, n_mw⟩ : ∃ g : Nat → Int32, hl1.2.1 mw = g := ⟨_, rfl⟩
  obtain ⟨mr, f_mr, g_mr⟩ := hx_rf hT gm tt_10 (k := 3) (u := 50) rfl
  obtain ⟨F_mr, n_mr⟩ : ∃ g : Nat → Int32, hl1.2.1 mr = g := ⟨_, rfl⟩
  obtain ⟨mp, f_mp, g_mp⟩ := hx_rf hT gm tt_10 (k := 5) (u := 52) rfl
  obtain ⟨F_mp, n_mp⟩ : ∃ g : Nat → Int32, hl1.2.1 mp = g := ⟨_, rfl⟩
  obtain ⟨mn, f_mn, g_mn⟩ := hx_rf hT gm tt_10 (k := 4) (u := 51) rfl
  obtain ⟨F_mn, n_mn⟩ : ∃ g : Nat → Int32, hl1.2.1 mn = g := ⟨_, rfl⟩
  obtain ⟨ml, f_ml, g_ml⟩ := hx_rf hT gm tt_10 (k := 44) (u := 79) rfl
  obtain ⟨F_ml, n_ml⟩ : ∃ g : Nat → Int32, hl1.2.1 ml = g := ⟨_, rfl⟩
  obtain ⟨mh, f_mh, g_mh⟩ := hx_rf hT gm tt_10 (k := 47) (u := 82) rfl
  obtain ⟨F_mh, n_mh⟩ : ∃ g : Nat → Int32, hl1.2.1 mh = g := ⟨_, rfl⟩
  obtain ⟨mt, f_mt, g_mt⟩ := hx_rf hT gm tt_10 (k := 45) (u := 80) rfl
  obtain ⟨F_mt, n_mt⟩ : ∃ g : Nat → Int32, hl1.2.1 mt = g := ⟨_, rfl⟩
  obtain ⟨m_fou, f_m_fou, g_m_fou⟩ := hx_rf hT gm tt_10 (k := 46) (u := 81) rfl
  obtain ⟨F_m_fou, n_m_fou⟩ : ∃ g : Nat → Int32, hl1.2.1 m_fou = g := ⟨_, rfl⟩
  obtain ⟨qo_ln, f_qo_ln, g_qo_ln⟩ := hx_rf hT gx tt_9 (k := 9) (u := 1) rfl
  have f_o_ln : hl1.2.1 qo_ln 0 = ln := (ho_ln qo_ln f_qo_ln).trans f_m_lines
  have f_o_lsd : hl1.2.1 qw 0 = lsd := (ho_lsd qw f_qw).trans f_m_listed
  have nu_qp := hn_qp qp f_qp; rw [f_x_personCount] at nu_qp
  have nu_qc := hn_qc qc f_qc; rw [f_x_claimCount] at nu_qc
  have sb_list := hLQ qw ql qc f_qw f_ql f_qc
  obtain ⟨m_lst, f_m_lst, g_m_lst⟩ := hx_rf hT gm tt_10 (k := 91) (u := 112) rfl
  obtain ⟨F_lst, n_lst⟩ : ∃ g : Nat → Int32, hl1.2.1 m_lst = g := ⟨_, rfl⟩
  obtain ⟨c_lst, cl_lst⟩ : ∃ g : Nat → Int32, hx_col 8 hl1 ql 0 = g := ⟨_, rfl⟩
  have eq_lst := hLE qw ql m_lst f_qw f_ql f_m_lst; rw [cl_lst, n_lst] at eq_lst
  obtain ⟨c_dead, cl_dead⟩ : ∃ g : Nat → Int32, hx_col 40 hl1 qp 7 = g := ⟨_, rfl⟩
  obtain ⟨m_dead, f_m_dead, g_m_dead⟩ := hx_rf hT gm tt_10 (k := 27) (u := 64) rfl
  obtain ⟨F_dead, n_dead⟩ : ∃ g : Nat → Int32, hl1.2.1 m_dead = g := ⟨_, rfl⟩
  have eq_dead := hc_dead qp m_dead f_qp f_m_dead; rw [cl_dead, n_dead] at eq_dead
  have z_dead : np.toInt.toNat < 40 → c_dead np.toInt.toNat = 0 := fun hj => hx_num_z nu_qp cl_dead hj (by omega)
  obtain ⟨c_isj, cl_isj⟩ : ∃ g : Nat → Int32, hx_col 40 hl1 qp 8 = g := ⟨_, rfl⟩
  obtain ⟨m_isj, f_m_isj, g_m_isj⟩ := hx_rf hT gm tt_10 (k := 28) (u := 65) rfl
  obtain ⟨F_isj, n_isj⟩ : ∃ g : Nat → Int32, hl1.2.1 m_isj = g := ⟨_, rfl⟩
  have eq_isj := hc_isj qp m_isj f_qp f_m_isj; rw [cl_isj, n_isj] at eq_isj
  have z_isj : np.toInt.toNat < 40 → c_isj np.toInt.toNat = 0 := fun hj => hx_num_z nu_qp cl_isj hj (by omega)
  obtain ⟨c_fou, cl_fou⟩ : ∃ g : Nat → Int32, hx_col 100 hl1 qc 10 = g := ⟨_, rfl⟩
  have eq_fou := hc_fou qc m_fou f_qc f_m_fou; rw [cl_fou, n_m_fou] at eq_fou
  have z_fou : c0.toInt.toNat < 100 → c_fou c0.toInt.toNat = 0 := fun hj => hx_num_z nu_qc cl_fou hj (by omega)
  obtain ⟨c_tri, cl_tri⟩ : ∃ g : Nat → Int32, hx_col 100 hl1 qc 9 = g := ⟨_, rfl⟩
  have eq_tri := hc_tri qc mt f_qc f_mt; rw [cl_tri, n_mt] at eq_tri
  have z_tri : c0.toInt.toNat < 100 → c_tri c0.toInt.toNat = 0 := fun hj => hx_num_z nu_qc cl_tri hj (by omega)
  have hwd := jw mw f_mw; rw [n_mw] at hwd
  have hWK := jr mr f_mr; rw [n_mr, f_m_acts] at hWK
  have hRP := jp mp mn f_mp f_mn; rw [n_mp, n_mn, f_m_acts] at hRP
  have hPL := jl ml f_ml; rw [n_ml, f_m_claims, f_m_acts] at hPL
  have hHC := jh mh f_mh; rw [n_mh, f_m_heardMany, f_m_claims] at hHC
  have hTR := jt mt f_mt; rw [n_mt] at hTR
  have hHF := jf mh m_fou f_mh f_m_fou; rw [n_mh, n_m_fou, f_m_claims] at hHF
  refine lv_aload_n hx hb dL_law_987 rfl (lv_at hl 2 rfl) ?_
  refine lv_aload_n hx hb dL_law_988 rfl (lv_at hl 3 rfl) ?_
  refine lv_iload_n hx hb dL_law_989 rfl (lv_at hl 0 rfl) ?_
  refine lv_iconst (v := 1) hx hb dL_law_990 (by decide) ?_
  refine lv_iadd hx hb dL_law_991 ?_
  have rg_457 := i32_r i
  refine lv_topi (fun x_458 ex_458 => ?_)
  have zx_458 : x_458.toInt = i.toInt + 1 := by rw [ex_458]; exact i32_add rfl (by decide) (by omega) (by omega)
  refine va_sld hx hb hX hbl hbA hW.2.2.2.1 (vp_in_iff.mpr ⟨by omega, by omega⟩) dL_law_992 ?_
  refine lv_topi (fun x_459 ex_459 => ?_)
  refine lv_aload_n hx hb dL_law_993 rfl (lv_at hl 3 rfl) ?_
  refine lv_iload_n hx hb dL_law_994 rfl (lv_at hl 0 rfl) ?_
  refine lv_iconst (v := 2) hx hb dL_law_995 (by decide) ?_
  refine lv_iadd hx hb dL_law_996 ?_
  refine lv_topi (fun x_460 ex_460 => ?_)
  have zx_460 : x_460.toInt = i.toInt + 2 := by rw [ex_460]; exact i32_add rfl (by decide) (by omega) (by omega)
  refine va_sld hx hb hX hbl hbA hW.2.2.2.1 (vp_in_iff.mpr ⟨by omega, by omega⟩) dL_law_997 ?_
  refine lv_topi (fun x_461 ex_461 => ?_)
  have hTo := hT
  refine hx_goi (hx_runVX (As := [.int x_459, .int x_461]) (rest := []) ⟨hx, hb, hml, hown, hts⟩ hW gx tt_9 (T := TX9) (N := 20) rfl (t_X9_seize l dC dI dA L1 hl1 H.size b0 ax x_459 x_461 hT gx qc g_qc f_qc pf_qc) hZ (cwV 2 hts (hx_gV kw_903 kw_900 kw_901 kw_902 kw_94) rfl rfl rfl (by decide +kernel) ⟨Nat.le_of_ble_eq_true rfl, Nat.le_of_ble_eq_true rfl⟩) rfl hl.1 rfl (Nat.le_of_ble_eq_true rfl) dL_law_998 ⟨(show CC + 0 ≤ 600000 from by omega), (show SS + 0 ≤ 7302250 from by omega)⟩) hW (fun r_464 L_462 h_463 H locs p_465 hW => ?_)
  obtain ⟨hr_466, hT, hs⟩ := p_465
  have hT : hx_T T_tb L_462 h_463 := hT
  have hs : hx_S T_tb [(2, 16), (2, 17)] L1 hl1 L_462 h_463 := hs
  have f_qa := (hs.o gx trivial rfl).2.trans f_qa
  have f_qp := (hs.o gx trivial rfl).2.trans f_qp
  have f_qc := (hs.o gx trivial rfl).2.trans f_qc
  have f_qh := (hs.o gx trivial rfl).2.trans f_qh
  have f_qw := (hs.o gx trivial rfl).2.trans f_qw
  have f_ql := (hs.o g_qw trivial rfl).2.trans f_ql
  have f_m_now := (hs.o gm trivial rfl).1.trans f_m_now
  have f_m_persons := (hs.o gm trivial rfl).1.trans f_m_persons
  have f_m_claims := (hs.o gm trivial rfl).1.trans f_m_claims
  have f_m_lines := (hs.o gm trivial rfl).1.trans f_m_lines
  have f_m_listed := (hs.o gm trivial rfl).1.trans f_m_listed
  have f_m_acts := (hs.o gm trivial rfl).1.trans f_m_acts
  have f_m_heardMany := (hs.o gm trivial rfl).1.trans f_m_heardMany
  have f_x_now := (hs.o gx trivial rfl).1.trans f_x_now
  have f_x_personCount := (hs.o gx trivial rfl).1.trans f_x_personCount
  have f_x_claimCount := (hs.o gx trivial rfl).1.trans f_x_claimCount
  have f_mw := (hs.o gm trivial rfl).2.trans f_mw
  have f_mr := (hs.o gm trivial rfl).2.trans f_mr
  have f_mp := (hs.o gm trivial rfl).2.trans f_mp
  have f_mn := (hs.o gm trivial rfl).2.trans f_mn
  have f_ml := (hs.o gm trivial rfl).2.trans f_ml
  have f_mh := (hs.o gm trivial rfl).2.trans f_mh
  have f_mt := (hs.o gm trivial rfl).2.trans f_mt
  have f_m_fou := (hs.o gm trivial rfl).2.trans f_m_fou
  have f_qo_ln := (hs.o gx trivial rfl).2.trans f_qo_ln
  have f_o_ln := (hs.o g_qo_ln trivial rfl).1.trans f_o_ln
  have f_o_lsd := (hs.o g_qw trivial rfl).1.trans f_o_lsd
  have f_m_lst := (hs.o gm trivial rfl).2.trans f_m_lst
  have f_m_dead := (hs.o gm trivial rfl).2.trans f_m_dead
  have f_m_isj := (hs.o gm trivial rfl).2.trans f_m_isj
  have pf_qa : ∀ j : Nat, (j : Int) < (h_463.2.1 ax 6).toInt → h_463.2.2 qa j ≠ none := by
    intro j hj; rw [(hs.o gx trivial rfl).1] at hj; rw [(hs.a g_qa rfl j).2]; exact pf_qa j hj
  have pf_qp : ∀ j : Nat, (j : Int) < (h_463.2.1 ax 8).toInt → h_463.2.2 qp j ≠ none := by
    intro j hj; rw [(hs.o gx trivial rfl).1] at hj; rw [(hs.a g_qp rfl j).2]; exact pf_qp j hj
  have pf_qc : ∀ j : Nat, (j : Int) < (h_463.2.1 ax 11).toInt → h_463.2.2 qc j ≠ none := by
    intro j hj; rw [(hs.o gx trivial rfl).1] at hj; rw [(hs.a g_qc rfl j).2]; exact pf_qc j hj
  have pf_qh : ∀ j : Nat, (j : Int) < (h_463.2.1 ax 13).toInt → h_463.2.2 qh j ≠ none := by
    intro j hj; rw [(hs.o gx trivial rfl).1] at hj; rw [(hs.a g_qh rfl j).2]; exact pf_qh j hj
  have pf_ql : ∀ j : Nat, (j : Int) < (h_463.2.1 qw 0).toInt → h_463.2.2 ql j ≠ none := by
    intro j hj; rw [(hs.o g_qw trivial rfl).1] at hj; rw [(hs.a g_ql rfl j).2]; exact pf_ql j hj
  have cl_lst : hx_col 8 h_463 ql 0 = c_lst := (hx_col_S hs hTo g_ql tt_40 tt_2 rfl rfl).trans cl_lst
  have cl_dead : hx_col 40 h_463 qp 7 = c_dead := (hx_col_S hs hTo g_qp tt_44 tt_4 rfl rfl).trans cl_dead
  have cl_isj : hx_col 40 h_463 qp 8 = c_isj := (hx_col_S hs hTo g_qp tt_44 tt_4 rfl rfl).trans cl_isj
  have cl_fou : hx_col 100 h_463 qc 10 = c_fou := (hx_col_S hs hTo g_qc tt_45 tt_2 rfl rfl).trans cl_fou
  have cl_tri : hx_col 100 h_463 qc 9 = c_tri := (hx_col_S hs hTo g_qc tt_45 tt_2 rfl rfl).trans cl_tri
  have nu_qp : hx_num 40 h_463 qp 0 (np.toInt) := hx_num_S hs hTo g_qp tt_44 tt_4 rfl rfl nu_qp
  have nu_qc : hx_num 100 h_463 qc 0 (c0.toInt) := hx_num_S hs hTo g_qc tt_45 tt_2 rfl rfl nu_qc
  have sb_list : hx_LQ 8 100 h_463 ql qc := hx_LQ_S hs g_ql g_qc rfl rfl sb_list
  have n_mw : h_463.2.1 mw = F_mw := (funext fun j => (hs.a g_mw rfl j).1).trans n_mw
  have n_mr : h_463.2.1 mr = F_mr := (funext fun j => (hs.a g_mr rfl j).1).trans n_mr
  have n_mp : h_463.2.1 mp = F_mp := (funext fun j => (hs.a g_mp rfl j).1).trans n_mp
  have n_mn : h_463.2.1 mn = F_mn := (funext fun j => (hs.a g_mn rfl j).1).trans n_mn
  have n_ml : h_463.2.1 ml = F_ml := (funext fun j => (hs.a g_ml rfl j).1).trans n_ml
  have n_mh : h_463.2.1 mh = F_mh := (funext fun j => (hs.a g_mh rfl j).1).trans n_mh
  have n_mt : h_463.2.1 mt = F_mt := (funext fun j => (hs.a g_mt rfl j).1).trans n_mt
  have n_m_fou : h_463.2.1 m_fou = F_m_fou := (funext fun j => (hs.a g_m_fou rfl j).1).trans n_m_fou
  have n_lst : h_463.2.1 m_lst = F_lst := (funext fun j => (hs.a g_m_lst rfl j).1).trans n_lst
  have n_dead : h_463.2.1 m_dead = F_dead := (funext fun j => (hs.a g_m_dead rfl j).1).trans n_dead
  have n_isj : h_463.2.1 m_isj = F_isj := (funext fun j => (hs.a g_m_isj rfl j).1).trans n_isj
  have gx := gx.S hs
  have gm := gm.S hs
  have g_qa := g_qa.S hs
  have g_qp := g_qp.S hs
  have g_qc := g_qc.S hs
  have g_qh := g_qh.S hs
  have g_qw := g_qw.S hs
  have g_ql := g_ql.S hs
  have g_mw := g_mw.S hs
  have g_mr := g_mr.S hs
  have g_mp := g_mp.S hs
  have g_mn := g_mn.S hs
  have g_ml := g_ml.S hs
  have g_mh := g_mh.S hs
  have g_mt := g_mt.S hs
  have g_m_fou := g_m_fou.S hs
  have g_qo_ln := g_qo_ln.S hs
  have g_m_lst := g_m_lst.S hs
  have g_m_dead := g_m_dead.S hs
  have g_m_isj := g_m_isj.S hs
  refine lv_pop hx hb dL_law_1001 rfl ?_
  refine lv_aload_n hx hb dL_law_1002 rfl (lv_at hl 1 rfl) ?_
  refine lv_aload_n hx hb dL_law_1003 rfl (lv_at hl 3 rfl) ?_
  refine lv_iload_n hx hb dL_law_1004 rfl (lv_at hl 0 rfl) ?_
  refine lv_iconst (v := 1) hx hb dL_law_1005 (by decide) ?_
  refine lv_iadd hx hb dL_law_1006 ?_
  refine lv_topi (fun x_467 ex_467 => ?_)
  have zx_467 : x_467.toInt = i.toInt + 1 := by rw [ex_467]; exact i32_add rfl (by decide) (by omega) (by omega)
  obtain rfl : x_458 = x_467 := ex_458.trans ex_467.symm
  refine va_sld hx hb hX hbl hbA hW.2.2.2.1 (vp_in_iff.mpr ⟨by omega, by omega⟩) dL_law_1007 ?_
  refine lv_topi (fun x_468 ex_468 => ?_)
  obtain rfl : x_459 = x_468 := ex_459.trans ex_468.symm
  refine lv_aload_n hx hb dL_law_1008 rfl (lv_at hl 3 rfl) ?_
  refine lv_iload_n hx hb dL_law_1009 rfl (lv_at hl 0 rfl) ?_
  refine lv_iconst (v := 2) hx hb dL_law_1010 (by decide) ?_
  refine lv_iadd hx hb dL_law_1011 ?_
  refine lv_topi (fun x_469 ex_469 => ?_)
  have zx_469 : x_469.toInt = i.toInt + 2 := by rw [ex_469]; exact i32_add rfl (by decide) (by omega) (by omega)
  obtain rfl : x_460 = x_469 := ex_460.trans ex_469.symm
  refine va_sld hx hb hX hbl hbA hW.2.2.2.1 (vp_in_iff.mpr ⟨by omega, by omega⟩) dL_law_1012 ?_
  refine lv_topi (fun x_470 ex_470 => ?_)
  obtain rfl : x_461 = x_470 := ex_461.trans ex_470.symm
  have hTo := hT
  refine hx_goi (hx_runV (As := [.int x_459, .int x_461]) (rest := []) ⟨hx, hb, hml, hown, hts⟩ hW gm tt_10 (T := TX10) (N := 98) rfl (t_X10_seize l dC dI dA L_462 h_463 H.size am x_459 x_461 hT gm) (cwV 2 hts (hx_gV kw_1661 kw_1658 kw_1659 kw_1660 kw_103) rfl rfl rfl (by decide +kernel) ⟨Nat.le_of_ble_eq_true rfl, Nat.le_of_ble_eq_true rfl⟩) rfl hl.1 rfl (Nat.le_of_ble_eq_true rfl) dL_law_1013 ⟨(show CC + 0 + 0 ≤ 600000 from by omega), (show SS + 0 + 0 ≤ 7302250 from by omega)⟩) hW (fun r_473 L_471 h_472 H locs p_474 hW => ?_)
  obtain ⟨hr_475, hT, hs⟩ := p_474
  have hT : hx_T T_tb L_471 h_472 := hT
  have hs : hx_S T_tb [(10, 67), (10, 68), (10, 69), (10, 70), (10, 71), (84, 0), (91, 0)] L_462 h_463 L_471 h_472 := hs
  have f_qa := (hs.o gx trivial rfl).2.trans f_qa
  have f_qp := (hs.o gx trivial rfl).2.trans f_qp
  have f_qc := (hs.o gx trivial rfl).2.trans f_qc
  have f_qh := (hs.o gx trivial rfl).2.trans f_qh
  have f_qw := (hs.o gx trivial rfl).2.trans f_qw
  have f_ql := (hs.o g_qw trivial rfl).2.trans f_ql
  have f_m_now := (hs.o gm trivial rfl).1.trans f_m_now
  have f_m_persons := (hs.o gm trivial rfl).1.trans f_m_persons
  have f_m_claims := (hs.o gm trivial rfl).1.trans f_m_claims
  have f_m_lines := (hs.o gm trivial rfl).1.trans f_m_lines
  have f_m_listed := (hs.o gm trivial rfl).1.trans f_m_listed
  have f_m_acts := (hs.o gm trivial rfl).1.trans f_m_acts
  have f_m_heardMany := (hs.o gm trivial rfl).1.trans f_m_heardMany
  have f_x_now := (hs.o gx trivial rfl).1.trans f_x_now
  have f_x_personCount := (hs.o gx trivial rfl).1.trans f_x_personCount
  have f_x_claimCount := (hs.o gx trivial rfl).1.trans f_x_claimCount
  have f_mw := (hs.o gm trivial rfl).2.trans f_mw
  have f_mr := (hs.o gm trivial rfl).2.trans f_mr
  have f_mp := (hs.o gm trivial rfl).2.trans f_mp
  have f_mn := (hs.o gm trivial rfl).2.trans f_mn
  have f_ml := (hs.o gm trivial rfl).2.trans f_ml
  have f_mh := (hs.o gm trivial rfl).2.trans f_mh
  have f_mt := (hs.o gm trivial rfl).2.trans f_mt
  have f_m_fou := (hs.o gm trivial rfl).2.trans f_m_fou
  have f_qo_ln := (hs.o gx trivial rfl).2.trans f_qo_ln
  have f_o_ln := (hs.o g_qo_ln trivial rfl).1.trans f_o_ln
  have f_o_lsd := (hs.o g_qw trivial rfl).1.trans f_o_lsd
  have f_m_lst := (hs.o gm trivial rfl).2.trans f_m_lst
  have f_m_dead := (hs.o gm trivial rfl).2.trans f_m_dead
  have f_m_isj := (hs.o gm trivial rfl).2.trans f_m_isj
  have pf_qa : ∀ j : Nat, (j : Int) < (h_472.2.1 ax 6).toInt → h_472.2.2 qa j ≠ none := by
    intro j hj; rw [(hs.o gx trivial rfl).1] at hj; rw [(hs.a g_qa rfl j).2]; exact pf_qa j hj
  have pf_qp : ∀ j : Nat, (j : Int) < (h_472.2.1 ax 8).toInt → h_472.2.2 qp j ≠ none := by
    intro j hj; rw [(hs.o gx trivial rfl).1] at hj; rw [(hs.a g_qp rfl j).2]; exact pf_qp j hj
  have pf_qc : ∀ j : Nat, (j : Int) < (h_472.2.1 ax 11).toInt → h_472.2.2 qc j ≠ none := by
    intro j hj; rw [(hs.o gx trivial rfl).1] at hj; rw [(hs.a g_qc rfl j).2]; exact pf_qc j hj
  have pf_qh : ∀ j : Nat, (j : Int) < (h_472.2.1 ax 13).toInt → h_472.2.2 qh j ≠ none := by
    intro j hj; rw [(hs.o gx trivial rfl).1] at hj; rw [(hs.a g_qh rfl j).2]; exact pf_qh j hj
  have pf_ql : ∀ j : Nat, (j : Int) < (h_472.2.1 qw 0).toInt → h_472.2.2 ql j ≠ none := by
    intro j hj; rw [(hs.o g_qw trivial rfl).1] at hj; rw [(hs.a g_ql rfl j).2]; exact pf_ql j hj
  have cl_lst : hx_col 8 h_472 ql 0 = c_lst := (hx_col_S hs hTo g_ql tt_40 tt_2 rfl rfl).trans cl_lst
  have cl_dead : hx_col 40 h_472 qp 7 = c_dead := (hx_col_S hs hTo g_qp tt_44 tt_4 rfl rfl).trans cl_dead
  have cl_isj : hx_col 40 h_472 qp 8 = c_isj := (hx_col_S hs hTo g_qp tt_44 tt_4 rfl rfl).trans cl_isj
  have cl_fou : hx_col 100 h_472 qc 10 = c_fou := (hx_col_S hs hTo g_qc tt_45 tt_2 rfl rfl).trans cl_fou
  have cl_tri : hx_col 100 h_472 qc 9 = c_tri := (hx_col_S hs hTo g_qc tt_45 tt_2 rfl rfl).trans cl_tri
  have nu_qp : hx_num 40 h_472 qp 0 (np.toInt) := hx_num_S hs hTo g_qp tt_44 tt_4 rfl rfl nu_qp
  have nu_qc : hx_num 100 h_472 qc 0 (c0.toInt) := hx_num_S hs hTo g_qc tt_45 tt_2 rfl rfl nu_qc
  have sb_list : hx_LQ 8 100 h_472 ql qc := hx_LQ_S hs g_ql g_qc rfl rfl sb_list
  have n_mw : h_472.2.1 mw = F_mw := (funext fun j => (hs.a g_mw rfl j).1).trans n_mw
  have n_mr : h_472.2.1 mr = F_mr := (funext fun j => (hs.a g_mr rfl j).1).trans n_mr
  have n_mp : h_472.2.1 mp = F_mp := (funext fun j => (hs.a g_mp rfl j).1).trans n_mp
  have n_mn : h_472.2.1 mn = F_mn := (funext fun j => (hs.a g_mn rfl j).1).trans n_mn
  have n_ml : h_472.2.1 ml = F_ml := (funext fun j => (hs.a g_ml rfl j).1).trans n_ml
  have n_mh : h_472.2.1 mh = F_mh := (funext fun j => (hs.a g_mh rfl j).1).trans n_mh
  have n_mt : h_472.2.1 mt = F_mt := (funext fun j => (hs.a g_mt rfl j).1).trans n_mt
  have n_m_fou : h_472.2.1 m_fou = F_m_fou := (funext fun j => (hs.a g_m_fou rfl j).1).trans n_m_fou
  have n_lst : h_472.2.1 m_lst = F_lst := (funext fun j => (hs.a g_m_lst rfl j).1).trans n_lst
  have n_dead : h_472.2.1 m_dead = F_dead := (funext fun j => (hs.a g_m_dead rfl j).1).trans n_dead
  have n_isj : h_472.2.1 m_isj = F_isj := (funext fun j => (hs.a g_m_isj rfl j).1).trans n_isj
  have gx := gx.S hs
  have gm := gm.S hs
  have g_qa := g_qa.S hs
  have g_qp := g_qp.S hs
  have g_qc := g_qc.S hs
  have g_qh := g_qh.S hs
  have g_qw := g_qw.S hs
  have g_ql := g_ql.S hs
  have g_mw := g_mw.S hs
  have g_mr := g_mr.S hs
  have g_mp := g_mp.S hs
  have g_mn := g_mn.S hs
  have g_ml := g_ml.S hs
  have g_mh := g_mh.S hs
  have g_mt := g_mt.S hs
  have g_m_fou := g_m_fou.S hs
  have g_qo_ln := g_qo_ln.S hs
  have g_m_lst := g_m_lst.S hs
  have g_m_dead := g_m_dead.S hs
  have g_m_isj := g_m_isj.S hs
  refine lv_pop hx hb dL_law_1016 rfl ?_
  refine lv_goto (tgt := 1379) hx hb dL_law_1017 (by decide) ?_
  refine W.widen (k := CC + 3) (n := SS + 179) (by omega) (by omega) ?_
  exact kk L_471 h_472 H locs ls hW ⟨hT, gx, gm, ⟨f_x_now.trans f_m_now.symm, f_x_personCount.trans f_m_persons.symm, f_x_claimCount.trans f_m_claims.symm, hx_ob f_qo_ln (f_o_ln.trans f_m_lines.symm), hx_ob f_qw (f_o_lsd.trans f_m_listed.symm), hx_ob f_qp (by rw [f_x_personCount]; exact nu_qp), hx_ob f_qc (by rw [f_x_claimCount]; exact nu_qc), (fun w q c hw hq hc => by obtain rfl : qw = w := Option.some.inj (f_qw.symm.trans hw); obtain rfl : ql = q := Option.some.inj (f_ql.symm.trans hq); obtain rfl : qc = c := Option.some.inj (f_qc.symm.trans hc); exact sb_list), (fun w q r hw hq hr => by obtain rfl : qw = w := Option.some.inj (f_qw.symm.trans hw); obtain rfl : ql = q := Option.some.inj (f_ql.symm.trans hq); obtain rfl : m_lst = r := Option.some.inj (f_m_lst.symm.trans hr); rw [cl_lst, n_lst]; exact eq_lst), hx_ob2 f_qp f_m_dead (by rw [cl_dead, n_dead]; exact eq_dead), hx_ob2 f_qp f_m_isj (by rw [cl_isj, n_isj]; exact eq_isj), hx_ob2 f_qc f_m_fou (by rw [cl_fou, n_m_fou]; exact eq_fou), hx_ob2 f_qc f_mt (by rw [cl_tri, n_mt]; exact eq_tri), trivial⟩, ⟨hx_ob f_qa pf_qa, hx_ob f_qp pf_qp, hx_ob f_qc pf_qc, hx_ob f_qh pf_qh, (fun w q hw hq => by obtain rfl : qw = w := Option.some.inj (f_qw.symm.trans hw); obtain rfl : ql = q := Option.some.inj (f_ql.symm.trans hq); exact pf_ql)⟩, ⟨hx_ob f_mw (by rw [n_mw]; exact hwd), hx_ob f_mr (by rw [n_mr, f_m_acts]; exact hWK), hx_ob2 f_mp f_mn (by rw [n_mp, n_mn, f_m_acts]; exact hRP), hx_ob f_ml (by rw [n_ml, f_m_claims, f_m_acts]; exact hPL), hx_ob f_mh (by rw [n_mh, f_m_heardMany, f_m_claims]; exact hHC), hx_ob f_mt (by rw [n_mt]; exact (hx_TR_le hTR (by omega))), hx_ob2 f_mh f_m_fou (by rw [n_mh, n_m_fou, f_m_claims]; exact hHF)⟩⟩ hl

set_option maxHeartbeats 4000000 in
set_option maxRecDepth 100000 in
theorem law_case_18 {p : Program} {e : Env} {s : State} {m : MethodId} {below : List Frame} {meth : Method} {c : Code} (l : Launch) {b LN : Nat} {xs : Nat → Int32} (hx : p.tables.exec = Jvm.exec) (hb : c.code = code) (hr : meth.sig.returnType = ret) (hlocks : meth.locks = false) (hml : c.maxLocals = 4) (hown : s.vm.findClass "SmallCourtLaw" = some m.cls) (hts : ∀ w ∈ hx_all, w.before #[Value.ref b] s = true) (hX : va_X b LN xs s s.heap) (hbl : b < s.heap.size) (hbA : ¬ s.heap.size ≤ b) (hLN : LN ≤ 3584) (dC : Nat → ClassId) (dI : Nat → Nat → Nat) (dA : Nat → ClassId) (b0 : hx_z) (ax am : Nat) (T1 : Int) (hT0 : 0 ≤ T1) (hT1 : T1 ≤ 511) (i : Int32) (hi0 : 0 ≤ i.toInt) (hiL : i.toInt + 7 ≤ LN) (CC SS : Nat) (hCC : CC + 3 ≤ 600000) (hSS : SS + 179 ≤ 7302250) (L1 : List Nat) (hl1 : hx_h) (H : Heap) (locs : List Loc) (ls : Array Slot) (hW : hx_W T_tb (P_ty dA) (dC, dI) vwCl (fun q : Nat => s.heap.size ≤ q) s.heap L1 hl1 s H locs) (hZ : hx_Xt (fun q : Nat => s.heap.size ≤ q) b0 s) (hI : hx_IV T1 ax am L1 hl1) (hl : lv_has ls 4 [(3, .int i), (2, .ref am), (1, .ref ax), (0, .ref b)]) (kk : ∀ (L2 : List Nat) (h2 : hx_h) (H2 : Heap) (locs2 : List Loc) (ls2 : Array Slot), hx_W T_tb (P_ty dA) (dC, dI) vwCl (fun q : Nat => s.heap.size ≤ q) s.heap L2 h2 s H2 locs2 → hx_IV (T1 + 1) ax am L2 h2 → lv_has ls2 4 [(3, .int i), (2, .ref am), (1, .ref ax), (0, .ref b)] → W p l e room_1 s m #[Value.ref b] below meth c H2 locs2 (CC + 3) (SS + 179) (lw_Z below #[Value.ref b] s) (F0 m 1379 ls2 [])) : W p l e room_1 s m #[Value.ref b] below meth c H locs CC SS (lw_Z below #[Value.ref b] s) (F0 m 1020 ls []) := by
  obtain ⟨hT, gx, gm, ⟨he_nw, he_np, he_c0, ho_ln, ho_lsd, hn_qp, hn_qc, hLQ, hLE, hc_dead, hc_isj, hc_fou, hc_tri, -⟩, ⟨ia, ip, ic, ih, il⟩, ⟨jw, jr, jp, jl, jh, jt, jf⟩⟩ := hI
  obtain ⟨qa, f_qa, g_qa⟩ := hx_rf hT gx tt_9 (k := 5) (u := 43) rfl
  have pf_qa := ia qa f_qa
  obtain ⟨qp, f_qp, g_qp⟩ := hx_rf hT gx tt_9 (k := 7) (u := 44) rfl
  have pf_qp := ip qp f_qp
  obtain ⟨qc, f_qc, g_qc⟩ := hx_rf hT gx tt_9 (k := 10) (u := 45) rfl
  have pf_qc := ic qc f_qc
  obtain ⟨qh, f_qh, g_qh⟩ := hx_rf hT gx tt_9 (k := 12) (u := 46) rfl
  have pf_qh := ih qh f_qh
  obtain ⟨qw, f_qw, g_qw⟩ := hx_rf hT gx tt_9 (k := 19) (u := 8) rfl
  obtain ⟨ql, f_ql, g_ql⟩ := hx_rf hT g_qw tt_8 (k := 3) (u := 40) rfl
  have pf_ql := il qw ql f_qw f_ql
  obtain ⟨nw, f_m_now⟩ : ∃ y : Int32, hl1.2.1 am 0 = y := ⟨_, rfl⟩
  have b_nw := hT.gi gm tt_10 (k := 0) rfl
  rw [f_m_now] at b_nw
  have b_nw : 0 ≤ nw.toInt ∧ nw.toInt ≤ 7999 := b_nw
  obtain ⟨np, f_m_persons⟩ : ∃ y : Int32, hl1.2.1 am 20 = y := ⟨_, rfl⟩
  have b_np := hT.gi gm tt_10 (k := 20) rfl
  rw [f_m_persons] at b_np
  have b_np : 0 ≤ np.toInt ∧ np.toInt ≤ 40 := b_np
  obtain ⟨c0, f_m_claims⟩ : ∃ y : Int32, hl1.2.1 am 36 = y := ⟨_, rfl⟩
  have b_c0 := hT.gi gm tt_10 (k := 36) rfl
  rw [f_m_claims] at b_c0
  have b_c0 : 0 ≤ c0.toInt ∧ c0.toInt ≤ 100 := b_c0
  obtain ⟨ln, f_m_lines⟩ : ∃ y : Int32, hl1.2.1 am 29 = y := ⟨_, rfl⟩
  have b_ln := hT.gi gm tt_10 (k := 29) rfl
  rw [f_m_lines] at b_ln
  have b_ln : 0 ≤ ln.toInt ∧ ln.toInt ≤ 400 := b_ln
  obtain ⟨lsd, f_m_listed⟩ : ∃ y : Int32, hl1.2.1 am 90 = y := ⟨_, rfl⟩
  have b_lsd := hT.gi gm tt_10 (k := 90) rfl
  rw [f_m_listed] at b_lsd
  have b_lsd : 0 ≤ lsd.toInt ∧ lsd.toInt ≤ 8 := b_lsd
  obtain ⟨a0, f_m_acts⟩ : ∃ y : Int32, hl1.2.1 am 1 = y := ⟨_, rfl⟩
  have b_a0 := hT.gi gm tt_10 (k := 1) rfl
  rw [f_m_acts] at b_a0
  have b_a0 : 0 ≤ a0.toInt ∧ a0.toInt ≤ 8 := b_a0
  obtain ⟨m0, f_m_heardMany⟩ : ∃ y : Int32, hl1.2.1 am 57 = y := ⟨_, rfl⟩
  have b_m0 := hT.gi gm tt_10 (k := 57) rfl
  rw [f_m_heardMany] at b_m0
  have b_m0 : 0 ≤ m0.toInt ∧ m0.toInt ≤ 100 := b_m0
  have f_x_now : hl1.2.1 ax 2 = nw := he_nw.trans f_m_now
  have f_x_personCount : hl1.2.1 ax 8 = np := he_np.trans f_m_persons
  have f_x_claimCount : hl1.2.1 ax 11 = c0 := he_c0.trans f_m_claims
  obtain ⟨mw, f_mw, g_mw⟩ := hx_rf hT gm tt_10 (k := 19) (u := 57) rfl
  obtain ⟨F_mw, n_mw⟩ : ∃ g : Nat → Int32, hl1.2.1 mw = g := ⟨_, rfl⟩
  obtain ⟨mr, f_mr, g_mr⟩ := hx_rf hT gm tt_10 (k := 3) (u := 50) rfl
  obtain ⟨F_mr, n_mr⟩ : ∃ g : Nat → Int32, hl1.2.1 mr = g := ⟨_, rfl⟩
  obtain ⟨mp, f_mp, g_mp⟩ := hx_rf hT gm tt_10 (k := 5) (u := 52) rfl
  obtain ⟨F_mp, n_mp⟩ : ∃ g : Nat → Int32, hl1.2.1 mp = g := ⟨_, rfl⟩
  obtain ⟨mn, f_mn, g_mn⟩ := hx_rf hT gm tt_10 (k := 4) (u := 51) rfl
  obtain ⟨F_mn, n_mn⟩ : ∃ g : Nat → Int32, hl1.2.1 mn = g := ⟨_, rfl⟩
  obtain ⟨ml, f_ml, g_ml⟩ := hx_rf hT gm tt_10 (k := 44) (u := 79) rfl
  obtain ⟨F_ml, n_ml⟩ : ∃ g : Nat → Int32, hl1.2.1 ml = g := ⟨_, rfl⟩
  obtain ⟨mh, f_mh, g_mh⟩ := hx_rf hT gm tt_10 (k := 47) (u := 82) rfl
  obtain ⟨F_mh, n_mh⟩ : ∃ g : Nat → Int32, hl1.2.1 mh = g := ⟨_, rfl⟩
  obtain ⟨mt, f_mt, g_mt⟩ := hx_rf hT gm tt_10 (k := 45) (u := 80) rfl
  obtain ⟨F_mt, n_mt⟩ : ∃ g : Nat → Int32, hl1.2.1 mt = g := ⟨_, rfl⟩
  obtain ⟨m_fou, f_m_fou, g_m_fou⟩ := hx_rf hT gm tt_10 (k := 46) (u := 81) rfl
  obtain ⟨F_m_fou, n_m_fou⟩ : ∃ g : Nat → Int32, hl1.2.1 m_fou = g := ⟨_, rfl⟩
  obtain ⟨qo_ln, f_qo_ln, g_qo_ln⟩ := hx_rf hT gx tt_9 (k := 9) (u := 1) rfl
  have f_o_ln : hl1.2.1 qo_ln 0 = ln := (ho_ln qo_ln f_qo_ln).trans f_m_lines
  have f_o_lsd : hl1.2.1 qw 0 = lsd := (ho_lsd qw f_qw).trans f_m_listed
  have nu_qp := hn_qp qp f_qp; rw [f_x_personCount] at nu_qp
  have nu_qc := hn_qc qc f_qc; rw [f_x_claimCount] at nu_qc
  have sb_list := hLQ qw ql qc f_qw f_ql f_qc
  obtain ⟨m_lst, f_m_lst, g_m_lst⟩ := hx_rf hT gm tt_10 (k := 91) (u := 112) rfl
  obtain ⟨F_lst, n_lst⟩ : ∃ g : Nat → Int32, hl1.2.1 m_lst = g := ⟨_, rfl⟩
  obtain ⟨c_lst, cl_lst⟩ : ∃ g : Nat → Int32, hx_col 8 hl1 ql 0 = g := ⟨_, rfl⟩
  have eq_lst := hLE qw ql m_lst f_qw f_ql f_m_lst; rw [cl_lst, n_lst] at eq_lst
  obtain ⟨c_dead, cl_dead⟩ : ∃ g : Nat → Int32, hx_col 40 hl1 qp 7 = g := ⟨_, rfl⟩
  obtain ⟨m_dead, f_m_dead, g_m_dead⟩ := hx_rf hT gm tt_10 (k := 27) (u := 64) rfl
  obtain ⟨F_dead, n_dead⟩ : ∃ g : Nat → Int32, hl1.2.1 m_dead = g := ⟨_, rfl⟩
  have eq_dead := hc_dead qp m_dead f_qp f_m_dead; rw [cl_dead, n_dead] at eq_dead
  have z_dead : np.toInt.toNat < 40 → c_dead np.toInt.toNat = 0 := fun hj => hx_num_z nu_qp cl_dead hj (by omega)
  obtain ⟨c_isj, cl_isj⟩ : ∃ g : Nat → Int32, hx_col 40 hl1 qp 8 = g := ⟨_, rfl⟩
  obtain ⟨m_isj, f_m_isj, g_m_isj⟩ := hx_rf hT gm tt_10 (k := 28) (u := 65) rfl
  obtain ⟨F_isj, n_isj⟩ : ∃ g : Nat → Int32, hl1.2.1 m_isj = g := ⟨_, rfl⟩
  have eq_isj := hc_isj qp m_isj f_qp f_m_isj; rw [cl_isj, n_isj] at eq_isj
  have z_isj : np.toInt.toNat < 40 → c_isj np.toInt.toNat = 0 := fun hj => hx_num_z nu_qp cl_isj hj (by omega)
  obtain ⟨c_fou, cl_fou⟩ : ∃ g : Nat → Int32, hx_col 100 hl1 qc 10 = g := ⟨_, rfl⟩
  have eq_fou := hc_fou qc m_fou f_qc f_m_fou; rw [cl_fou, n_m_fou] at eq_fou
  have z_fou : c0.toInt.toNat < 100 → c_fou c0.toInt.toNat = 0 := fun hj => hx_num_z nu_qc cl_fou hj (by omega)
  obtain ⟨c_tri, cl_tri⟩ : ∃ g : Nat → Int32, hx_col 100 hl1 qc 9 = g := ⟨_, rfl⟩
  have eq_tri := hc_tri qc mt f_qc f_mt; rw [cl_tri, n_mt] at eq_tri
  have z_tri : c0.toInt.toNat < 100 → c_tri c0.toInt.toNat = 0 := fun hj => hx_num_z nu_qc cl_tri hj (by omega)
  have hwd := jw mw f_mw; rw [n_mw] at hwd
  have hWK := jr mr f_mr; rw [n_mr, f_m_acts] at hWK
  have hRP := jp mp mn f_mp f_mn; rw [n_mp, n_mn, f_m_acts] at hRP
  have hPL := jl ml f_ml; rw [n_ml, f_m_claims, f_m_acts] at hPL
  have hHC := jh mh f_mh; rw [n_mh, f_m_heardMany, f_m_claims] at hHC
  have hTR := jt mt f_mt; rw [n_mt] at hTR
  have hHF := jf mh m_fou f_mh f_m_fou; rw [n_mh, n_m_fou, f_m_claims] at hHF
  refine lv_aload_n hx hb dL_law_1020 rfl (lv_at hl 2 rfl) ?_
  refine lv_aload_n hx hb dL_law_1021 rfl (lv_at hl 3 rfl) ?_
  refine lv_iload_n hx hb dL_law_1022 rfl (lv_at hl 0 rfl) ?_
  refine lv_iconst (v := 1) hx hb dL_law_1023 (by decide) ?_
  refine lv_iadd hx hb dL_law_1024 ?_
  have rg_476 := i32_r i
  refine lv_topi (fun x_477 ex_477 => ?_)
  have zx_477 : x_477.toInt = i.toInt + 1 := by rw [ex_477]; exact i32_add rfl (by decide) (by omega) (by omega)
  refine va_sld hx hb hX hbl hbA hW.2.2.2.1 (vp_in_iff.mpr ⟨by omega, by omega⟩) dL_law_1025 ?_
  refine lv_topi (fun x_478 ex_478 => ?_)
  have hTo := hT
  refine hx_goi (hx_runVX (As := [.int x_478]) (rest := []) ⟨hx, hb, hml, hown, hts⟩ hW gx tt_9 (T := TX9) (N := 20) rfl (t_X9_gaol l dC dI dA L1 hl1 H.size b0 ax x_478 hT gx qc g_qc f_qc pf_qc) hZ (cwV 1 hts (hx_gV kw_926 kw_923 kw_924 kw_925 kw_94) rfl rfl rfl (by decide +kernel) ⟨Nat.le_of_ble_eq_true rfl, Nat.le_of_ble_eq_true rfl⟩) rfl hl.1 rfl (Nat.le_of_ble_eq_true rfl) dL_law_1026 ⟨(show CC + 0 ≤ 600000 from by omega), (show SS + 0 ≤ 7302250 from by omega)⟩) hW (fun r_481 L_479 h_480 H locs p_482 hW => ?_)
  obtain ⟨hr_483, hT, hs⟩ := p_482
  have hT : hx_T T_tb L_479 h_480 := hT
  have hs : hx_S T_tb [(2, 18)] L1 hl1 L_479 h_480 := hs
  have f_qa := (hs.o gx trivial rfl).2.trans f_qa
  have f_qp := (hs.o gx trivial rfl).2.trans f_qp
  have f_qc := (hs.o gx trivial rfl).2.trans f_qc
  have f_qh := (hs.o gx trivial rfl).2.trans f_qh
  have f_qw := (hs.o gx trivial rfl).2.trans f_qw
  have f_ql := (hs.o g_qw trivial rfl).2.trans f_ql
  have f_m_now := (hs.o gm trivial rfl).1.trans f_m_now
  have f_m_persons := (hs.o gm trivial rfl).1.trans f_m_persons
  have f_m_claims := (hs.o gm trivial rfl).1.trans f_m_claims
  have f_m_lines := (hs.o gm trivial rfl).1.trans f_m_lines
  have f_m_listed := (hs.o gm trivial rfl).1.trans f_m_listed
  have f_m_acts := (hs.o gm trivial rfl).1.trans f_m_acts
  have f_m_heardMany := (hs.o gm trivial rfl).1.trans f_m_heardMany
  have f_x_now := (hs.o gx trivial rfl).1.trans f_x_now
  have f_x_personCount := (hs.o gx trivial rfl).1.trans f_x_personCount
  have f_x_claimCount := (hs.o gx trivial rfl).1.trans f_x_claimCount
  have f_mw := (hs.o gm trivial rfl).2.trans f_mw
  have f_mr := (hs.o gm trivial rfl).2.trans f_mr
  have f_mp := (hs.o gm trivial rfl).2.trans f_mp
  have f_mn := (hs.o gm trivial rfl).2.trans f_mn
  have f_ml := (hs.o gm trivial rfl).2.trans f_ml
  have f_mh := (hs.o gm trivial rfl).2.trans f_mh
  have f_mt := (hs.o gm trivial rfl).2.trans f_mt
  have f_m_fou := (hs.o gm trivial rfl).2.trans f_m_fou
  have f_qo_ln := (hs.o gx trivial rfl).2.trans f_qo_ln
  have f_o_ln := (hs.o g_qo_ln trivial rfl).1.trans f_o_ln
  have f_o_lsd := (hs.o g_qw trivial rfl).1.trans f_o_lsd
  have f_m_lst := (hs.o gm trivial rfl).2.trans f_m_lst
  have f_m_dead := (hs.o gm trivial rfl).2.trans f_m_dead
  have f_m_isj := (hs.o gm trivial rfl).2.trans f_m_isj
  have pf_qa : ∀ j : Nat, (j : Int) < (h_480.2.1 ax 6).toInt → h_480.2.2 qa j ≠ none := by
    intro j hj; rw [(hs.o gx trivial rfl).1] at hj; rw [(hs.a g_qa rfl j).2]; exact pf_qa j hj
  have pf_qp : ∀ j : Nat, (j : Int) < (h_480.2.1 ax 8).toInt → h_480.2.2 qp j ≠ none := by
    intro j hj; rw [(hs.o gx trivial rfl).1] at hj; rw [(hs.a g_qp rfl j).2]; exact pf_qp j hj
  have pf_qc : ∀ j : Nat, (j : Int) < (h_480.2.1 ax 11).toInt → h_480.2.2 qc j ≠ none := by
    intro j hj; rw [(hs.o gx trivial rfl).1] at hj; rw [(hs.a g_qc rfl j).2]; exact pf_qc j hj
  have pf_qh : ∀ j : Nat, (j : Int) < (h_480.2.1 ax 13).toInt → h_480.2.2 qh j ≠ none := by
    intro j hj; rw [(hs.o gx trivial rfl).1] at hj; rw [(hs.a g_qh rfl j).2]; exact pf_qh j hj
  have pf_ql : ∀ j : Nat, (j : Int) < (h_480.2.1 qw 0).toInt → h_480.2.2 ql j ≠ none := by
    intro j hj; rw [(hs.o g_qw trivial rfl).1] at hj; rw [(hs.a g_ql rfl j).2]; exact pf_ql j hj
  have cl_lst : hx_col 8 h_480 ql 0 = c_lst := (hx_col_S hs hTo g_ql tt_40 tt_2 rfl rfl).trans cl_lst
  have cl_dead : hx_col 40 h_480 qp 7 = c_dead := (hx_col_S hs hTo g_qp tt_44 tt_4 rfl rfl).trans cl_dead
  have cl_isj : hx_col 40 h_480 qp 8 = c_isj := (hx_col_S hs hTo g_qp tt_44 tt_4 rfl rfl).trans cl_isj
  have cl_fou : hx_col 100 h_480 qc 10 = c_fou := (hx_col_S hs hTo g_qc tt_45 tt_2 rfl rfl).trans cl_fou
  have cl_tri : hx_col 100 h_480 qc 9 = c_tri := (hx_col_S hs hTo g_qc tt_45 tt_2 rfl rfl).trans cl_tri
  have nu_qp : hx_num 40 h_480 qp 0 (np.toInt) := hx_num_S hs hTo g_qp tt_44 tt_4 rfl rfl nu_qp
  have nu_qc : hx_num 100 h_480 qc 0 (c0.toInt) := hx_num_S hs hTo g_qc tt_45 tt_2 rfl rfl nu_qc
  have sb_list : hx_LQ 8 100 h_480 ql qc := hx_LQ_S hs g_ql g_qc rfl rfl sb_list
  have n_mw : h_480.2.1 mw = F_mw := (funext fun j => (hs.a g_mw rfl j).1).trans n_mw
  have n_mr : h_480.2.1 mr = F_mr := (funext fun j => (hs.a g_mr rfl j).1).trans n_mr
  have n_mp : h_480.2.1 mp = F_mp := (funext fun j => (hs.a g_mp rfl j).1).trans n_mp
  have n_mn : h_480.2.1 mn = F_mn := (funext fun j => (hs.a g_mn rfl j).1).trans n_mn
  have n_ml : h_480.2.1 ml = F_ml := (funext fun j => (hs.a g_ml rfl j).1).trans n_ml
  have n_mh : h_480.2.1 mh = F_mh := (funext fun j => (hs.a g_mh rfl j).1).trans n_mh
  have n_mt : h_480.2.1 mt = F_mt := (funext fun j => (hs.a g_mt rfl j).1).trans n_mt
  have n_m_fou : h_480.2.1 m_fou = F_m_fou := (funext fun j => (hs.a g_m_fou rfl j).1).trans n_m_fou
  have n_lst : h_480.2.1 m_lst = F_lst := (funext fun j => (hs.a g_m_lst rfl j).1).trans n_lst
  have n_dead : h_480.2.1 m_dead = F_dead := (funext fun j => (hs.a g_m_dead rfl j).1).trans n_dead
  have n_isj : h_480.2.1 m_isj = F_isj := (funext fun j => (hs.a g_m_isj rfl j).1).trans n_isj
  have gx := gx.S hs
  have gm := gm.S hs
  have g_qa := g_qa.S hs
  have g_qp := g_qp.S hs
  have g_qc := g_qc.S hs
  have g_qh := g_qh.S hs
  have g_qw := g_qw.S hs
  have g_ql := g_ql.S hs
  have g_mw := g_mw.S hs
  have g_mr := g_mr.S hs
  have g_mp := g_mp.S hs
  have g_mn := g_mn.S hs
  have g_ml := g_ml.S hs
  have g_mh := g_mh.S hs
  have g_mt := g_mt.S hs
  have g_m_fou := g_m_fou.S hs
  have g_qo_ln := g_qo_ln.S hs
  have g_m_lst := g_m_lst.S hs
  have g_m_dead := g_m_dead.S hs
  have g_m_isj := g_m_isj.S hs
  refine lv_pop hx hb dL_law_1029 rfl ?_
  refine lv_aload_n hx hb dL_law_1030 rfl (lv_at hl 1 rfl) ?_
  refine lv_aload_n hx hb dL_law_1031 rfl (lv_at hl 3 rfl) ?_
  refine lv_iload_n hx hb dL_law_1032 rfl (lv_at hl 0 rfl) ?_
  refine lv_iconst (v := 1) hx hb dL_law_1033 (by decide) ?_
  refine lv_iadd hx hb dL_law_1034 ?_
  refine lv_topi (fun x_484 ex_484 => ?_)
  have zx_484 : x_484.toInt = i.toInt + 1 := by rw [ex_484]; exact i32_add rfl (by decide) (by omega) (by omega)
  obtain rfl : x_477 = x_484 := ex_477.trans ex_484.symm
  refine va_sld hx hb hX hbl hbA hW.2.2.2.1 (vp_in_iff.mpr ⟨by omega, by omega⟩) dL_law_1035 ?_
  refine lv_topi (fun x_485 ex_485 => ?_)
  obtain rfl : x_478 = x_485 := ex_478.trans ex_485.symm
  have hTo := hT
  refine hx_goi (hx_runV (As := [.int x_478]) (rest := []) ⟨hx, hb, hml, hown, hts⟩ hW gm tt_10 (T := TX10) (N := 98) rfl (t_X10_gaol l dC dI dA L_479 h_480 H.size am x_478 hT gm) (cwV 1 hts (hx_gV kw_1665 kw_1662 kw_1663 kw_1664 kw_103) rfl rfl rfl (by decide +kernel) ⟨Nat.le_of_ble_eq_true rfl, Nat.le_of_ble_eq_true rfl⟩) rfl hl.1 rfl (Nat.le_of_ble_eq_true rfl) dL_law_1036 ⟨(show CC + 0 + 0 ≤ 600000 from by omega), (show SS + 0 + 0 ≤ 7302250 from by omega)⟩) hW (fun r_488 L_486 h_487 H locs p_489 hW => ?_)
  obtain ⟨hr_490, hT, hs⟩ := p_489
  have hT : hx_T T_tb L_486 h_487 := hT
  have hs : hx_S T_tb [(10, 67), (10, 68), (10, 69), (10, 70), (10, 71), (85, 0)] L_479 h_480 L_486 h_487 := hs
  have f_qa := (hs.o gx trivial rfl).2.trans f_qa
  have f_qp := (hs.o gx trivial rfl).2.trans f_qp
  have f_qc := (hs.o gx trivial rfl).2.trans f_qc
  have f_qh := (hs.o gx trivial rfl).2.trans f_qh
  have f_qw := (hs.o gx trivial rfl).2.trans f_qw
  have f_ql := (hs.o g_qw trivial rfl).2.trans f_ql
  have f_m_now := (hs.o gm trivial rfl).1.trans f_m_now
  have f_m_persons := (hs.o gm trivial rfl).1.trans f_m_persons
  have f_m_claims := (hs.o gm trivial rfl).1.trans f_m_claims
  have f_m_lines := (hs.o gm trivial rfl).1.trans f_m_lines
  have f_m_listed := (hs.o gm trivial rfl).1.trans f_m_listed
  have f_m_acts := (hs.o gm trivial rfl).1.trans f_m_acts
  have f_m_heardMany := (hs.o gm trivial rfl).1.trans f_m_heardMany
  have f_x_now := (hs.o gx trivial rfl).1.trans f_x_now
  have f_x_personCount := (hs.o gx trivial rfl).1.trans f_x_personCount
  have f_x_claimCount := (hs.o gx trivial rfl).1.trans f_x_claimCount
  have f_mw := (hs.o gm trivial rfl).2.trans f_mw
  have f_mr := (hs.o gm trivial rfl).2.trans f_mr
  have f_mp := (hs.o gm trivial rfl).2.trans f_mp
  have f_mn := (hs.o gm trivial rfl).2.trans f_mn
  have f_ml := (hs.o gm trivial rfl).2.trans f_ml
  have f_mh := (hs.o gm trivial rfl).2.trans f_mh
  have f_mt := (hs.o gm trivial rfl).2.trans f_mt
  have f_m_fou := (hs.o gm trivial rfl).2.trans f_m_fou
  have f_qo_ln := (hs.o gx trivial rfl).2.trans f_qo_ln
  have f_o_ln := (hs.o g_qo_ln trivial rfl).1.trans f_o_ln
  have f_o_lsd := (hs.o g_qw trivial rfl).1.trans f_o_lsd
  have f_m_lst := (hs.o gm trivial rfl).2.trans f_m_lst
  have f_m_dead := (hs.o gm trivial rfl).2.trans f_m_dead
  have f_m_isj := (hs.o gm trivial rfl).2.trans f_m_isj
  have pf_qa : ∀ j : Nat, (j : Int) < (h_487.2.1 ax 6).toInt → h_487.2.2 qa j ≠ none := by
    intro j hj; rw [(hs.o gx trivial rfl).1] at hj; rw [(hs.a g_qa rfl j).2]; exact pf_qa j hj
  have pf_qp : ∀ j : Nat, (j : Int) < (h_487.2.1 ax 8).toInt → h_487.2.2 qp j ≠ none := by
    intro j hj; rw [(hs.o gx trivial rfl).1] at hj; rw [(hs.a g_qp rfl j).2]; exact pf_qp j hj
  have pf_qc : ∀ j : Nat, (j : Int) < (h_487.2.1 ax 11).toInt → h_487.2.2 qc j ≠ none := by
    intro j hj; rw [(hs.o gx trivial rfl).1] at hj; rw [(hs.a g_qc rfl j).2]; exact pf_qc j hj
  have pf_qh : ∀ j : Nat, (j : Int) < (h_487.2.1 ax 13).toInt → h_487.2.2 qh j ≠ none := by
    intro j hj; rw [(hs.o gx trivial rfl).1] at hj; rw [(hs.a g_qh rfl j).2]; exact pf_qh j hj
  have pf_ql : ∀ j : Nat, (j : Int) < (h_487.2.1 qw 0).toInt → h_487.2.2 ql j ≠ none := by
    intro j hj; rw [(hs.o g_qw trivial rfl).1] at hj; rw [(hs.a g_ql rfl j).2]; exact pf_ql j hj
  have cl_lst : hx_col 8 h_487 ql 0 = c_lst := (hx_col_S hs hTo g_ql tt_40 tt_2 rfl rfl).trans cl_lst
  have cl_dead : hx_col 40 h_487 qp 7 = c_dead := (hx_col_S hs hTo g_qp tt_44 tt_4 rfl rfl).trans cl_dead
  have cl_isj : hx_col 40 h_487 qp 8 = c_isj := (hx_col_S hs hTo g_qp tt_44 tt_4 rfl rfl).trans cl_isj
  have cl_fou : hx_col 100 h_487 qc 10 = c_fou := (hx_col_S hs hTo g_qc tt_45 tt_2 rfl rfl).trans cl_fou
  have cl_tri : hx_col 100 h_487 qc 9 = c_tri := (hx_col_S hs hTo g_qc tt_45 tt_2 rfl rfl).trans cl_tri
  have nu_qp : hx_num 40 h_487 qp 0 (np.toInt) := hx_num_S hs hTo g_qp tt_44 tt_4 rfl rfl nu_qp
  have nu_qc : hx_num 100 h_487 qc 0 (c0.toInt) := hx_num_S hs hTo g_qc tt_45 tt_2 rfl rfl nu_qc
  have sb_list : hx_LQ 8 100 h_487 ql qc := hx_LQ_S hs g_ql g_qc rfl rfl sb_list
  have n_mw : h_487.2.1 mw = F_mw := (funext fun j => (hs.a g_mw rfl j).1).trans n_mw
  have n_mr : h_487.2.1 mr = F_mr := (funext fun j => (hs.a g_mr rfl j).1).trans n_mr
  have n_mp : h_487.2.1 mp = F_mp := (funext fun j => (hs.a g_mp rfl j).1).trans n_mp
  have n_mn : h_487.2.1 mn = F_mn := (funext fun j => (hs.a g_mn rfl j).1).trans n_mn
  have n_ml : h_487.2.1 ml = F_ml := (funext fun j => (hs.a g_ml rfl j).1).trans n_ml
  have n_mh : h_487.2.1 mh = F_mh := (funext fun j => (hs.a g_mh rfl j).1).trans n_mh
  have n_mt : h_487.2.1 mt = F_mt := (funext fun j => (hs.a g_mt rfl j).1).trans n_mt
  have n_m_fou : h_487.2.1 m_fou = F_m_fou := (funext fun j => (hs.a g_m_fou rfl j).1).trans n_m_fou
  have n_lst : h_487.2.1 m_lst = F_lst := (funext fun j => (hs.a g_m_lst rfl j).1).trans n_lst
  have n_dead : h_487.2.1 m_dead = F_dead := (funext fun j => (hs.a g_m_dead rfl j).1).trans n_dead
  have n_isj : h_487.2.1 m_isj = F_isj := (funext fun j => (hs.a g_m_isj rfl j).1).trans n_isj
  have gx := gx.S hs
  have gm := gm.S hs
  have g_qa := g_qa.S hs
  have g_qp := g_qp.S hs
  have g_qc := g_qc.S hs
  have g_qh := g_qh.S hs
  have g_qw := g_qw.S hs
  have g_ql := g_ql.S hs
  have g_mw := g_mw.S hs
  have g_mr := g_mr.S hs
  have g_mp := g_mp.S hs
  have g_mn := g_mn.S hs
  have g_ml := g_ml.S hs
  have g_mh := g_mh.S hs
  have g_mt := g_mt.S hs
  have g_m_fou := g_m_fou.S hs
  have g_qo_ln := g_qo_ln.S hs
  have g_m_lst := g_m_lst.S hs
  have g_m_dead := g_m_dead.S hs
  have g_m_isj := g_m_isj.S hs
  refine lv_pop hx hb dL_law_1039 rfl ?_
  refine lv_goto (tgt := 1379) hx hb dL_law_1040 (by decide) ?_
  refine W.widen (k := CC + 3) (n := SS + 179) (by omega) (by omega) ?_
  exact kk L_486 h_487 H locs ls hW ⟨hT, gx, gm, ⟨f_x_now.trans f_m_now.symm, f_x_personCount.trans f_m_persons.symm, f_x_claimCount.trans f_m_claims.symm, hx_ob f_qo_ln (f_o_ln.trans f_m_lines.symm), hx_ob f_qw (f_o_lsd.trans f_m_listed.symm), hx_ob f_qp (by rw [f_x_personCount]; exact nu_qp), hx_ob f_qc (by rw [f_x_claimCount]; exact nu_qc), (fun w q c hw hq hc => by obtain rfl : qw = w := Option.some.inj (f_qw.symm.trans hw); obtain rfl : ql = q := Option.some.inj (f_ql.symm.trans hq); obtain rfl : qc = c := Option.some.inj (f_qc.symm.trans hc); exact sb_list), (fun w q r hw hq hr => by obtain rfl : qw = w := Option.some.inj (f_qw.symm.trans hw); obtain rfl : ql = q := Option.some.inj (f_ql.symm.trans hq); obtain rfl : m_lst = r := Option.some.inj (f_m_lst.symm.trans hr); rw [cl_lst, n_lst]; exact eq_lst), hx_ob2 f_qp f_m_dead (by rw [cl_dead, n_dead]; exact eq_dead), hx_ob2 f_qp f_m_isj (by rw [cl_isj, n_isj]; exact eq_isj), hx_ob2 f_qc f_m_fou (by rw [cl_fou, n_m_fou]; exact eq_fou), hx_ob2 f_qc f_mt (by rw [cl_tri, n_mt]; exact eq_tri), trivial⟩, ⟨hx_ob f_qa pf_qa, hx_ob f_qp pf_qp, hx_ob f_qc pf_qc, hx_ob f_qh pf_qh, (fun w q hw hq => by obtain rfl : qw = w := Option.some.inj (f_qw.symm.trans hw); obtain rfl : ql = q := Option.some.inj (f_ql.symm.trans hq); exact pf_ql)⟩, ⟨hx_ob f_mw (by rw [n_mw]; exact hwd), hx_ob f_mr (by rw [n_mr, f_m_acts]; exact hWK), hx_ob2 f_mp f_mn (by rw [n_mp, n_mn, f_m_acts]; exact hRP), hx_ob f_ml (by rw [n_ml, f_m_claims, f_m_acts]; exact hPL), hx_ob f_mh (by rw [n_mh, f_m_heardMany, f_m_claims]; exact hHC), hx_ob f_mt (by rw [n_mt]; exact (hx_TR_le hTR (by omega))), hx_ob2 f_mh f_m_fou (by rw [n_mh, n_m_fou, f_m_claims]; exact hHF)⟩⟩ hl

set_option maxHeartbeats 4000000 in
set_option maxRecDepth 100000 in
theorem law_case_19 {p : Program} {e : Env} {s : State} {m : MethodId} {below : List Frame} {meth : Method} {c : Code} (l : Launch) {b LN : Nat} {xs : Nat → Int32} (hx : p.tables.exec = Jvm.exec) (hb : c.code = code) (hr : meth.sig.returnType = ret) (hlocks : meth.locks = false) (hml : c.maxLocals = 4) (hown : s.vm.findClass "SmallCourtLaw" = some m.cls) (hts : ∀ w ∈ hx_all, w.before #[Value.ref b] s = true) (hX : va_X b LN xs s s.heap) (hbl : b < s.heap.size) (hbA : ¬ s.heap.size ≤ b) (hLN : LN ≤ 3584) (dC : Nat → ClassId) (dI : Nat → Nat → Nat) (dA : Nat → ClassId) (b0 : hx_z) (ax am : Nat) (T1 : Int) (hT0 : 0 ≤ T1) (hT1 : T1 ≤ 511) (i : Int32) (hi0 : 0 ≤ i.toInt) (hiL : i.toInt + 7 ≤ LN) (CC SS : Nat) (hCC : CC + 3 ≤ 600000) (hSS : SS + 179 ≤ 7302250) (L1 : List Nat) (hl1 : hx_h) (H : Heap) (locs : List Loc) (ls : Array Slot) (hW : hx_W T_tb (P_ty dA) (dC, dI) vwCl (fun q : Nat => s.heap.size ≤ q) s.heap L1 hl1 s H locs) (hZ : hx_Xt (fun q : Nat => s.heap.size ≤ q) b0 s) (hI : hx_IV T1 ax am L1 hl1) (hl : lv_has ls 4 [(3, .int i), (2, .ref am), (1, .ref ax), (0, .ref b)]) (kk : ∀ (L2 : List Nat) (h2 : hx_h) (H2 : Heap) (locs2 : List Loc) (ls2 : Array Slot), hx_W T_tb (P_ty dA) (dC, dI) vwCl (fun q : Nat => s.heap.size ≤ q) s.heap L2 h2 s H2 locs2 → hx_IV (T1 + 1) ax am L2 h2 → lv_has ls2 4 [(3, .int i), (2, .ref am), (1, .ref ax), (0, .ref b)] → W p l e room_1 s m #[Value.ref b] below meth c H2 locs2 (CC + 3) (SS + 179) (lw_Z below #[Value.ref b] s) (F0 m 1379 ls2 [])) : W p l e room_1 s m #[Value.ref b] below meth c H locs CC SS (lw_Z below #[Value.ref b] s) (F0 m 1043 ls []) := by
  obtain ⟨hT, gx, gm, ⟨he_nw, he_np, he_c0, ho_ln, ho_lsd, hn_qp, hn_qc, hLQ, hLE, hc_dead, hc_isj, hc_fou, hc_tri, -⟩, ⟨ia, ip, ic, ih, il⟩, ⟨jw, jr, jp, jl, jh, jt, jf⟩⟩ := hI
  obtain ⟨qa, f_qa, g_qa⟩ := hx_rf hT gx tt_9 (k := 5) (u := 43) rfl
  have pf_qa := ia qa f_qa
  obtain ⟨qp, f_qp, g_qp⟩ := hx_rf hT gx tt_9 (k := 7) (u := 44) rfl
  have pf_qp := ip qp f_qp
  obtain ⟨qc, f_qc, g_qc⟩ := hx_rf hT gx tt_9 (k := 10) (u := 45) rfl
  have pf_qc := ic qc f_qc
  obtain ⟨qh, f_qh, g_qh⟩ := hx_rf hT gx tt_9 (k := 12) (u := 46) rfl
  have pf_qh := ih qh f_qh
  obtain ⟨qw, f_qw, g_qw⟩ := hx_rf hT gx tt_9 (k := 19) (u := 8) rfl
  obtain ⟨ql, f_ql, g_ql⟩ := hx_rf hT g_qw tt_8 (k := 3) (u := 40) rfl
  have pf_ql := il qw ql f_qw f_ql
  obtain ⟨nw, f_m_now⟩ : ∃ y : Int32, hl1.2.1 am 0 = y := ⟨_, rfl⟩
  have b_nw := hT.gi gm tt_10 (k := 0) rfl
  rw [f_m_now] at b_nw
  have b_nw : 0 ≤ nw.toInt ∧ nw.toInt ≤ 7999 := b_nw
  obtain ⟨np, f_m_persons⟩ : ∃ y : Int32, hl1.2.1 am 20 = y := ⟨_, rfl⟩
  have b_np := hT.gi gm tt_10 (k := 20) rfl
  rw [f_m_persons] at b_np
  have b_np : 0 ≤ np.toInt ∧ np.toInt ≤ 40 := b_np
  obtain ⟨c0, f_m_claims⟩ : ∃ y : Int32, hl1.2.1 am 36 = y := ⟨_, rfl⟩
  have b_c0 := hT.gi gm tt_10 (k := 36) rfl
  rw [f_m_claims] at b_c0
  have b_c0 : 0 ≤ c0.toInt ∧ c0.toInt ≤ 100 := b_c0
  obtain ⟨ln, f_m_lines⟩ : ∃ y : Int32, hl1.2.1 am 29 = y := ⟨_, rfl⟩
  have b_ln := hT.gi gm tt_10 (k := 29) rfl
  rw [f_m_lines] at b_ln
  have b_ln : 0 ≤ ln.toInt ∧ ln.toInt ≤ 400 := b_ln
  obtain ⟨lsd, f_m_listed⟩ : ∃ y : Int32, hl1.2.1 am 90 = y := ⟨_, rfl⟩
  have b_lsd := hT.gi gm tt_10 (k := 90) rfl
  rw [f_m_listed] at b_lsd
  have b_lsd : 0 ≤ lsd.toInt ∧ lsd.toInt ≤ 8 := b_lsd
  obtain ⟨a0, f_m_acts⟩ : ∃ y : Int32, hl1.2.1 am 1 = y := ⟨_, rfl⟩
  have b_a0 := hT.gi gm tt_10 (k := 1) rfl
  rw [f_m_acts] at b_a0
  have b_a0 : 0 ≤ a0.toInt ∧ a0.toInt ≤ 8 := b_a0
  obtain ⟨m0, f_m_heardMany⟩ : ∃ y : Int32, hl1.2.1 am 57 = y := ⟨_, rfl⟩
  have b_m0 := hT.gi gm tt_10 (k := 57) rfl
  rw [f_m_heardMany] at b_m0
  have b_m0 : 0 ≤ m0.toInt ∧ m0.toInt ≤ 100 := b_m0
  have f_x_now : hl1.2.1 ax 2 = nw := he_nw.trans f_m_now
  have f_x_personCount : hl1.2.1 ax 8 = np := he_np.trans f_m_persons
  have f_x_claimCount : hl1.2.1 ax 11 = c0 := he_c0.trans f_m_claims
  obtain ⟨mw, f_mw, g_mw⟩ := hx_rf hT gm tt_10 (k := 19) (u := 57) rfl
  obtain ⟨F_mw, n_mw⟩ : ∃ g : Nat → Int32, hl1.2.1 mw = g := ⟨_, rfl⟩
  obtain ⟨mr, f_mr, g_mr⟩ := hx_rf hT gm tt_10 (k := 3) (u := 50) rfl
  obtain ⟨F_mr, n_mr⟩ : ∃ g : Nat → Int32, hl1.2.1 mr = g := ⟨_, rfl⟩
  obtain ⟨mp, f_mp, g_mp⟩ := hx_rf hT gm tt_10 (k := 5) (u := 52) rfl
  obtain ⟨F_mp, n_mp⟩ : ∃ g : Nat → Int32, hl1.2.1 mp = g := ⟨_, rfl⟩
  obtain ⟨mn, f_mn, g_mn⟩ := hx_rf hT gm tt_10 (k := 4) (u := 51) rfl
  obtain ⟨F_mn, n_mn⟩ : ∃ g : Nat → Int32, hl1.2.1 mn = g := ⟨_, rfl⟩
  obtain ⟨ml, f_ml, g_ml⟩ := hx_rf hT gm tt_10 (k := 44) (u := 79) rfl
  obtain ⟨F_ml, n_ml⟩ : ∃ g : Nat → Int32, hl1.2.1 ml = g := ⟨_, rfl⟩
  obtain ⟨mh, f_mh, g_mh⟩ := hx_rf hT gm tt_10 (k := 47) (u := 82) rfl
  obtain ⟨F_mh, n_mh⟩ : ∃ g : Nat → Int32, hl1.2.1 mh = g := ⟨_, rfl⟩
  obtain ⟨mt, f_mt, g_mt⟩ := hx_rf hT gm tt_10 (k := 45) (u := 80) rfl
  obtain ⟨F_mt, n_mt⟩ : ∃ g : Nat → Int32, hl1.2.1 mt = g := ⟨_, rfl⟩
  obtain ⟨m_fou, f_m_fou, g_m_fou⟩ := hx_rf hT gm tt_10 (k := 46) (u := 81) rfl
  obtain ⟨F_m_fou, n_m_fou⟩ : ∃ g : Nat → Int32, hl1.2.1 m_fou = g := ⟨_, rfl⟩
  obtain ⟨qo_ln, f_qo_ln, g_qo_ln⟩ := hx_rf hT gx tt_9 (k := 9) (u := 1) rfl
  have f_o_ln : hl1.2.1 qo_ln 0 = ln := (ho_ln qo_ln f_qo_ln).trans f_m_lines
  have f_o_lsd : hl1.2.1 qw 0 = lsd := (ho_lsd qw f_qw).trans f_m_listed
  have nu_qp := hn_qp qp f_qp; rw [f_x_personCount] at nu_qp
  have nu_qc := hn_qc qc f_qc; rw [f_x_claimCount] at nu_qc
  have sb_list := hLQ qw ql qc f_qw f_ql f_qc
  obtain ⟨m_lst, f_m_lst, g_m_lst⟩ := hx_rf hT gm tt_10 (k := 91) (u := 112) rfl
  obtain ⟨F_lst, n_lst⟩ : ∃ g : Nat → Int32, hl1.2.1 m_lst = g := ⟨_, rfl⟩
  obtain ⟨c_lst, cl_lst⟩ : ∃ g : Nat → Int32, hx_col 8 hl1 ql 0 = g := ⟨_, rfl⟩
  have eq_lst := hLE qw ql m_lst f_qw f_ql f_m_lst; rw [cl_lst, n_lst] at eq_lst
  obtain ⟨c_dead, cl_dead⟩ : ∃ g : Nat → Int32, hx_col 40 hl1 qp 7 = g := ⟨_, rfl⟩
  obtain ⟨m_dead, f_m_dead, g_m_dead⟩ := hx_rf hT gm tt_10 (k := 27) (u := 64) rfl
  obtain ⟨F_dead, n_dead⟩ : ∃ g : Nat → Int32, hl1.2.1 m_dead = g := ⟨_, rfl⟩
  have eq_dead := hc_dead qp m_dead f_qp f_m_dead; rw [cl_dead, n_dead] at eq_dead
  have z_dead : np.toInt.toNat < 40 → c_dead np.toInt.toNat = 0 := fun hj => hx_num_z nu_qp cl_dead hj (by omega)
  obtain ⟨c_isj, cl_isj⟩ : ∃ g : Nat → Int32, hx_col 40 hl1 qp 8 = g := ⟨_, rfl⟩
  obtain ⟨m_isj, f_m_isj, g_m_isj⟩ := hx_rf hT gm tt_10 (k := 28) (u := 65) rfl
  obtain ⟨F_isj, n_isj⟩ : ∃ g : Nat → Int32, hl1.2.1 m_isj = g := ⟨_, rfl⟩
  have eq_isj := hc_isj qp m_isj f_qp f_m_isj; rw [cl_isj, n_isj] at eq_isj
  have z_isj : np.toInt.toNat < 40 → c_isj np.toInt.toNat = 0 := fun hj => hx_num_z nu_qp cl_isj hj (by omega)
  obtain ⟨c_fou, cl_fou⟩ : ∃ g : Nat → Int32, hx_col 100 hl1 qc 10 = g := ⟨_, rfl⟩
  have eq_fou := hc_fou qc m_fou f_qc f_m_fou; rw [cl_fou, n_m_fou] at eq_fou
  have z_fou : c0.toInt.toNat < 100 → c_fou c0.toInt.toNat = 0 := fun hj => hx_num_z nu_qc cl_fou hj (by omega)
  obtain ⟨c_tri, cl_tri⟩ : ∃ g : Nat → Int32, hx_col 100 hl1 qc 9 = g := ⟨_, rfl⟩
  have eq_tri := hc_tri qc mt f_qc f_mt; rw [cl_tri, n_mt] at eq_tri
  have z_tri : c0.toInt.toNat < 100 → c_tri c0.toInt.toNat = 0 := fun hj => hx_num_z nu_qc cl_tri hj (by omega)
  have hwd := jw mw f_mw; rw [n_mw] at hwd
  have hWK := jr mr f_mr; rw [n_mr, f_m_acts] at hWK
  have hRP := jp mp mn f_mp f_mn; rw [n_mp, n_mn, f_m_acts] at hRP
  have hPL := jl ml f_ml; rw [n_ml, f_m_claims, f_m_acts] at hPL
  have hHC := jh mh f_mh; rw [n_mh, f_m_heardMany, f_m_claims] at hHC
  have hTR := jt mt f_mt; rw [n_mt] at hTR
  have hHF := jf mh m_fou f_mh f_m_fou; rw [n_mh, n_m_fou, f_m_claims] at hHF
  refine lv_aload_n hx hb dL_law_1043 rfl (lv_at hl 2 rfl) ?_
  refine lv_aload_n hx hb dL_law_1044 rfl (lv_at hl 3 rfl) ?_
  refine lv_iload_n hx hb dL_law_1045 rfl (lv_at hl 0 rfl) ?_
  refine lv_iconst (v := 1) hx hb dL_law_1046 (by decide) ?_
  refine lv_iadd hx hb dL_law_1047 ?_
  have rg_491 := i32_r i
  refine lv_topi (fun x_492 ex_492 => ?_)
  have zx_492 : x_492.toInt = i.toInt + 1 := by rw [ex_492]; exact i32_add rfl (by decide) (by omega) (by omega)
  refine va_sld hx hb hX hbl hbA hW.2.2.2.1 (vp_in_iff.mpr ⟨by omega, by omega⟩) dL_law_1048 ?_
  refine lv_topi (fun x_493 ex_493 => ?_)
  refine lv_aload_n hx hb dL_law_1049 rfl (lv_at hl 3 rfl) ?_
  refine lv_iload_n hx hb dL_law_1050 rfl (lv_at hl 0 rfl) ?_
  refine lv_iconst (v := 2) hx hb dL_law_1051 (by decide) ?_
  refine lv_iadd hx hb dL_law_1052 ?_
  refine lv_topi (fun x_494 ex_494 => ?_)
  have zx_494 : x_494.toInt = i.toInt + 2 := by rw [ex_494]; exact i32_add rfl (by decide) (by omega) (by omega)
  refine va_sld hx hb hX hbl hbA hW.2.2.2.1 (vp_in_iff.mpr ⟨by omega, by omega⟩) dL_law_1053 ?_
  refine lv_topi (fun x_495 ex_495 => ?_)
  have hTo := hT
  refine hx_goi (hx_runV (As := [.int x_493, .int x_495]) (rest := []) ⟨hx, hb, hml, hown, hts⟩ hW gx tt_9 (T := TX9) (N := 20) rfl (t_X9_claim l dC dI dA L1 hl1 H.size ax x_493 x_495 hT gx qc g_qc f_qc pf_qc) (cwV 2 hts (hx_gV kw_933 kw_930 kw_931 kw_932 kw_94) rfl rfl rfl (by decide +kernel) ⟨Nat.le_of_ble_eq_true rfl, Nat.le_of_ble_eq_true rfl⟩) rfl hl.1 rfl (Nat.le_of_ble_eq_true rfl) dL_law_1054 ⟨(show CC + 0 ≤ 600000 from by omega), (show SS + 0 ≤ 7302250 from by omega)⟩) hW (fun r_498 L_496 h_497 H locs p_499 hW => ?_)
  obtain ⟨hr_500, hT, hs⟩ := p_499
  have hT : hx_T T_tb L_496 h_497 := hT
  have hs : hx_S T_tb [] L1 hl1 L_496 h_497 := hs
  have f_qa := (hs.o gx trivial rfl).2.trans f_qa
  have f_qp := (hs.o gx trivial rfl).2.trans f_qp
  have f_qc := (hs.o gx trivial rfl).2.trans f_qc
  have f_qh := (hs.o gx trivial rfl).2.trans f_qh
  have f_qw := (hs.o gx trivial rfl).2.trans f_qw
  have f_ql := (hs.o g_qw trivial rfl).2.trans f_ql
  have f_m_now := (hs.o gm trivial rfl).1.trans f_m_now
  have f_m_persons := (hs.o gm trivial rfl).1.trans f_m_persons
  have f_m_claims := (hs.o gm trivial rfl).1.trans f_m_claims
  have f_m_lines := (hs.o gm trivial rfl).1.trans f_m_lines
  have f_m_listed := (hs.o gm trivial rfl).1.trans f_m_listed
  have f_m_acts := (hs.o gm trivial rfl).1.trans f_m_acts
  have f_m_heardMany := (hs.o gm trivial rfl).1.trans f_m_heardMany
  have f_x_now := (hs.o gx trivial rfl).1.trans f_x_now
  have f_x_personCount := (hs.o gx trivial rfl).1.trans f_x_personCount
  have f_x_claimCount := (hs.o gx trivial rfl).1.trans f_x_claimCount
  have f_mw := (hs.o gm trivial rfl).2.trans f_mw
  have f_mr := (hs.o gm trivial rfl).2.trans f_mr
  have f_mp := (hs.o gm trivial rfl).2.trans f_mp
  have f_mn := (hs.o gm trivial rfl).2.trans f_mn
  have f_ml := (hs.o gm trivial rfl).2.trans f_ml
  have f_mh := (hs.o gm trivial rfl).2.trans f_mh
  have f_mt := (hs.o gm trivial rfl).2.trans f_mt
  have f_m_fou := (hs.o gm trivial rfl).2.trans f_m_fou
  have f_qo_ln := (hs.o gx trivial rfl).2.trans f_qo_ln
  have f_o_ln := (hs.o g_qo_ln trivial rfl).1.trans f_o_ln
  have f_o_lsd := (hs.o g_qw trivial rfl).1.trans f_o_lsd
  have f_m_lst := (hs.o gm trivial rfl).2.trans f_m_lst
  have f_m_dead := (hs.o gm trivial rfl).2.trans f_m_dead
  have f_m_isj := (hs.o gm trivial rfl).2.trans f_m_isj
  have pf_qa : ∀ j : Nat, (j : Int) < (h_497.2.1 ax 6).toInt → h_497.2.2 qa j ≠ none := by
    intro j hj; rw [(hs.o gx trivial rfl).1] at hj; rw [(hs.a g_qa rfl j).2]; exact pf_qa j hj
  have pf_qp : ∀ j : Nat, (j : Int) < (h_497.2.1 ax 8).toInt → h_497.2.2 qp j ≠ none := by
    intro j hj; rw [(hs.o gx trivial rfl).1] at hj; rw [(hs.a g_qp rfl j).2]; exact pf_qp j hj
  have pf_qc : ∀ j : Nat, (j : Int) < (h_497.2.1 ax 11).toInt → h_497.2.2 qc j ≠ none := by
    intro j hj; rw [(hs.o gx trivial rfl).1] at hj; rw [(hs.a g_qc rfl j).2]; exact pf_qc j hj
  have pf_qh : ∀ j : Nat, (j : Int) < (h_497.2.1 ax 13).toInt → h_497.2.2 qh j ≠ none := by
    intro j hj; rw [(hs.o gx trivial rfl).1] at hj; rw [(hs.a g_qh rfl j).2]; exact pf_qh j hj
  have pf_ql : ∀ j : Nat, (j : Int) < (h_497.2.1 qw 0).toInt → h_497.2.2 ql j ≠ none := by
    intro j hj; rw [(hs.o g_qw trivial rfl).1] at hj; rw [(hs.a g_ql rfl j).2]; exact pf_ql j hj
  have cl_lst : hx_col 8 h_497 ql 0 = c_lst := (hx_col_S hs hTo g_ql tt_40 tt_2 rfl rfl).trans cl_lst
  have cl_dead : hx_col 40 h_497 qp 7 = c_dead := (hx_col_S hs hTo g_qp tt_44 tt_4 rfl rfl).trans cl_dead
  have cl_isj : hx_col 40 h_497 qp 8 = c_isj := (hx_col_S hs hTo g_qp tt_44 tt_4 rfl rfl).trans cl_isj
  have cl_fou : hx_col 100 h_497 qc 10 = c_fou := (hx_col_S hs hTo g_qc tt_45 tt_2 rfl rfl).trans cl_fou
  have cl_tri : hx_col 100 h_497 qc 9 = c_tri := (hx_col_S hs hTo g_qc tt_45 tt_2 rfl rfl).trans cl_tri
  have nu_qp : hx_num 40 h_497 qp 0 (np.toInt) := hx_num_S hs hTo g_qp tt_44 tt_4 rfl rfl nu_qp
  have nu_qc : hx_num 100 h_497 qc 0 (c0.toInt) := hx_num_S hs hTo g_qc tt_45 tt_2 rfl rfl nu_qc
  have sb_list : hx_LQ 8 100 h_497 ql qc := hx_LQ_S hs g_ql g_qc rfl rfl sb_list
  have n_mw : h_497.2.1 mw = F_mw := (funext fun j => (hs.a g_mw rfl j).1).trans n_mw
  have n_mr : h_497.2.1 mr = F_mr := (funext fun j => (hs.a g_mr rfl j).1).trans n_mr
  have n_mp : h_497.2.1 mp = F_mp := (funext fun j => (hs.a g_mp rfl j).1).trans n_mp
  have n_mn : h_497.2.1 mn = F_mn := (funext fun j => (hs.a g_mn rfl j).1).trans n_mn
  have n_ml : h_497.2.1 ml = F_ml := (funext fun j => (hs.a g_ml rfl j).1).trans n_ml
  have n_mh : h_497.2.1 mh = F_mh := (funext fun j => (hs.a g_mh rfl j).1).trans n_mh
  have n_mt : h_497.2.1 mt = F_mt := (funext fun j => (hs.a g_mt rfl j).1).trans n_mt
  have n_m_fou : h_497.2.1 m_fou = F_m_fou := (funext fun j => (hs.a g_m_fou rfl j).1).trans n_m_fou
  have n_lst : h_497.2.1 m_lst = F_lst := (funext fun j => (hs.a g_m_lst rfl j).1).trans n_lst
  have n_dead : h_497.2.1 m_dead = F_dead := (funext fun j => (hs.a g_m_dead rfl j).1).trans n_dead
  have n_isj : h_497.2.1 m_isj = F_isj := (funext fun j => (hs.a g_m_isj rfl j).1).trans n_isj
  have gx := gx.S hs
  have gm := gm.S hs
  have g_qa := g_qa.S hs
  have g_qp := g_qp.S hs
  have g_qc := g_qc.S hs
  have g_qh := g_qh.S hs
  have g_qw := g_qw.S hs
  have g_ql := g_ql.S hs
  have g_mw := g_mw.S hs
  have g_mr := g_mr.S hs
  have g_mp := g_mp.S hs
  have g_mn := g_mn.S hs
  have g_ml := g_ml.S hs
  have g_mh := g_mh.S hs
  have g_mt := g_mt.S hs
  have g_m_fou := g_m_fou.S hs
  have g_qo_ln := g_qo_ln.S hs
  have g_m_lst := g_m_lst.S hs
  have g_m_dead := g_m_dead.S hs
  have g_m_isj := g_m_isj.S hs
  refine lv_pop hx hb dL_law_1057 rfl ?_
  refine lv_aload_n hx hb dL_law_1058 rfl (lv_at hl 1 rfl) ?_
  refine lv_aload_n hx hb dL_law_1059 rfl (lv_at hl 3 rfl) ?_
  refine lv_iload_n hx hb dL_law_1060 rfl (lv_at hl 0 rfl) ?_
  refine lv_iconst (v := 1) hx hb dL_law_1061 (by decide) ?_
  refine lv_iadd hx hb dL_law_1062 ?_
  refine lv_topi (fun x_501 ex_501 => ?_)
  have zx_501 : x_501.toInt = i.toInt + 1 := by rw [ex_501]; exact i32_add rfl (by decide) (by omega) (by omega)
  obtain rfl : x_492 = x_501 := ex_492.trans ex_501.symm
  refine va_sld hx hb hX hbl hbA hW.2.2.2.1 (vp_in_iff.mpr ⟨by omega, by omega⟩) dL_law_1063 ?_
  refine lv_topi (fun x_502 ex_502 => ?_)
  obtain rfl : x_493 = x_502 := ex_493.trans ex_502.symm
  refine lv_aload_n hx hb dL_law_1064 rfl (lv_at hl 3 rfl) ?_
  refine lv_iload_n hx hb dL_law_1065 rfl (lv_at hl 0 rfl) ?_
  refine lv_iconst (v := 2) hx hb dL_law_1066 (by decide) ?_
  refine lv_iadd hx hb dL_law_1067 ?_
  refine lv_topi (fun x_503 ex_503 => ?_)
  have zx_503 : x_503.toInt = i.toInt + 2 := by rw [ex_503]; exact i32_add rfl (by decide) (by omega) (by omega)
  obtain rfl : x_494 = x_503 := ex_494.trans ex_503.symm
  refine va_sld hx hb hX hbl hbA hW.2.2.2.1 (vp_in_iff.mpr ⟨by omega, by omega⟩) dL_law_1068 ?_
  refine lv_topi (fun x_504 ex_504 => ?_)
  obtain rfl : x_495 = x_504 := ex_495.trans ex_504.symm
  have hTo := hT
  refine hx_goi (hx_runV (As := [.int x_493, .int x_495]) (rest := []) ⟨hx, hb, hml, hown, hts⟩ hW gm tt_10 (T := TX10) (N := 98) rfl (t_X10_claim l dC dI dA L_496 h_497 H.size am x_493 x_495 hT gm) (cwV 2 hts (hx_gV kw_1669 kw_1666 kw_1667 kw_1668 kw_103) rfl rfl rfl (by decide +kernel) ⟨Nat.le_of_ble_eq_true rfl, Nat.le_of_ble_eq_true rfl⟩) rfl hl.1 rfl (Nat.le_of_ble_eq_true rfl) dL_law_1069 ⟨(show CC + 0 + 0 ≤ 600000 from by omega), (show SS + 0 + 0 ≤ 7302250 from by omega)⟩) hW (fun r_507 L_505 h_506 H locs p_508 hW => ?_)
  obtain ⟨hr_509, hT, hs⟩ := p_508
  have hT : hx_T T_tb L_505 h_506 := hT
  have hs : hx_S T_tb [] L_496 h_497 L_505 h_506 := hs
  have f_qa := (hs.o gx trivial rfl).2.trans f_qa
  have f_qp := (hs.o gx trivial rfl).2.trans f_qp
  have f_qc := (hs.o gx trivial rfl).2.trans f_qc
  have f_qh := (hs.o gx trivial rfl).2.trans f_qh
  have f_qw := (hs.o gx trivial rfl).2.trans f_qw
  have f_ql := (hs.o g_qw trivial rfl).2.trans f_ql
  have f_m_now := (hs.o gm trivial rfl).1.trans f_m_now
  have f_m_persons := (hs.o gm trivial rfl).1.trans f_m_persons
  have f_m_claims := (hs.o gm trivial rfl).1.trans f_m_claims
  have f_m_lines := (hs.o gm trivial rfl).1.trans f_m_lines
  have f_m_listed := (hs.o gm trivial rfl).1.trans f_m_listed
  have f_m_acts := (hs.o gm trivial rfl).1.trans f_m_acts
  have f_m_heardMany := (hs.o gm trivial rfl).1.trans f_m_heardMany
  have f_x_now := (hs.o gx trivial rfl).1.trans f_x_now
  have f_x_personCount := (hs.o gx trivial rfl).1.trans f_x_personCount
  have f_x_claimCount := (hs.o gx trivial rfl).1.trans f_x_claimCount
  have f_mw := (hs.o gm trivial rfl).2.trans f_mw
  have f_mr := (hs.o gm trivial rfl).2.trans f_mr
  have f_mp := (hs.o gm trivial rfl).2.trans f_mp
  have f_mn := (hs.o gm trivial rfl).2.trans f_mn
  have f_ml := (hs.o gm trivial rfl).2.trans f_ml
  have f_mh := (hs.o gm trivial rfl).2.trans f_mh
  have f_mt := (hs.o gm trivial rfl).2.trans f_mt
  have f_m_fou := (hs.o gm trivial rfl).2.trans f_m_fou
  have f_qo_ln := (hs.o gx trivial rfl).2.trans f_qo_ln
  have f_o_ln := (hs.o g_qo_ln trivial rfl).1.trans f_o_ln
  have f_o_lsd := (hs.o g_qw trivial rfl).1.trans f_o_lsd
  have f_m_lst := (hs.o gm trivial rfl).2.trans f_m_lst
  have f_m_dead := (hs.o gm trivial rfl).2.trans f_m_dead
  have f_m_isj := (hs.o gm trivial rfl).2.trans f_m_isj
  have pf_qa : ∀ j : Nat, (j : Int) < (h_506.2.1 ax 6).toInt → h_506.2.2 qa j ≠ none := by
    intro j hj; rw [(hs.o gx trivial rfl).1] at hj; rw [(hs.a g_qa rfl j).2]; exact pf_qa j hj
  have pf_qp : ∀ j : Nat, (j : Int) < (h_506.2.1 ax 8).toInt → h_506.2.2 qp j ≠ none := by
    intro j hj; rw [(hs.o gx trivial rfl).1] at hj; rw [(hs.a g_qp rfl j).2]; exact pf_qp j hj
  have pf_qc : ∀ j : Nat, (j : Int) < (h_506.2.1 ax 11).toInt → h_506.2.2 qc j ≠ none := by
    intro j hj; rw [(hs.o gx trivial rfl).1] at hj; rw [(hs.a g_qc rfl j).2]; exact pf_qc j hj
  have pf_qh : ∀ j : Nat, (j : Int) < (h_506.2.1 ax 13).toInt → h_506.2.2 qh j ≠ none := by
    intro j hj; rw [(hs.o gx trivial rfl).1] at hj; rw [(hs.a g_qh rfl j).2]; exact pf_qh j hj
  have pf_ql : ∀ j : Nat, (j : Int) < (h_506.2.1 qw 0).toInt → h_506.2.2 ql j ≠ none := by
    intro j hj; rw [(hs.o g_qw trivial rfl).1] at hj; rw [(hs.a g_ql rfl j).2]; exact pf_ql j hj
  have cl_lst : hx_col 8 h_506 ql 0 = c_lst := (hx_col_S hs hTo g_ql tt_40 tt_2 rfl rfl).trans cl_lst
  have cl_dead : hx_col 40 h_506 qp 7 = c_dead := (hx_col_S hs hTo g_qp tt_44 tt_4 rfl rfl).trans cl_dead
  have cl_isj : hx_col 40 h_506 qp 8 = c_isj := (hx_col_S hs hTo g_qp tt_44 tt_4 rfl rfl).trans cl_isj
  have cl_fou : hx_col 100 h_506 qc 10 = c_fou := (hx_col_S hs hTo g_qc tt_45 tt_2 rfl rfl).trans cl_fou
  have cl_tri : hx_col 100 h_506 qc 9 = c_tri := (hx_col_S hs hTo g_qc tt_45 tt_2 rfl rfl).trans cl_tri
  have nu_qp : hx_num 40 h_506 qp 0 (np.toInt) := hx_num_S hs hTo g_qp tt_44 tt_4 rfl rfl nu_qp
  have nu_qc : hx_num 100 h_506 qc 0 (c0.toInt) := hx_num_S hs hTo g_qc tt_45 tt_2 rfl rfl nu_qc
  have sb_list : hx_LQ 8 100 h_506 ql qc := hx_LQ_S hs g_ql g_qc rfl rfl sb_list
  have n_mw : h_506.2.1 mw = F_mw := (funext fun j => (hs.a g_mw rfl j).1).trans n_mw
  have n_mr : h_506.2.1 mr = F_mr := (funext fun j => (hs.a g_mr rfl j).1).trans n_mr
  have n_mp : h_506.2.1 mp = F_mp := (funext fun j => (hs.a g_mp rfl j).1).trans n_mp
  have n_mn : h_506.2.1 mn = F_mn := (funext fun j => (hs.a g_mn rfl j).1).trans n_mn
  have n_ml : h_506.2.1 ml = F_ml := (funext fun j => (hs.a g_ml rfl j).1).trans n_ml
  have n_mh : h_506.2.1 mh = F_mh := (funext fun j => (hs.a g_mh rfl j).1).trans n_mh
  have n_mt : h_506.2.1 mt = F_mt := (funext fun j => (hs.a g_mt rfl j).1).trans n_mt
  have n_m_fou : h_506.2.1 m_fou = F_m_fou := (funext fun j => (hs.a g_m_fou rfl j).1).trans n_m_fou
  have n_lst : h_506.2.1 m_lst = F_lst := (funext fun j => (hs.a g_m_lst rfl j).1).trans n_lst
  have n_dead : h_506.2.1 m_dead = F_dead := (funext fun j => (hs.a g_m_dead rfl j).1).trans n_dead
  have n_isj : h_506.2.1 m_isj = F_isj := (funext fun j => (hs.a g_m_isj rfl j).1).trans n_isj
  have gx := gx.S hs
  have gm := gm.S hs
  have g_qa := g_qa.S hs
  have g_qp := g_qp.S hs
  have g_qc := g_qc.S hs
  have g_qh := g_qh.S hs
  have g_qw := g_qw.S hs
  have g_ql := g_ql.S hs
  have g_mw := g_mw.S hs
  have g_mr := g_mr.S hs
  have g_mp := g_mp.S hs
  have g_mn := g_mn.S hs
  have g_ml := g_ml.S hs
  have g_mh := g_mh.S hs
  have g_mt := g_mt.S hs
  have g_m_fou := g_m_fou.S hs
  have g_qo_ln := g_qo_ln.S hs
  have g_m_lst := g_m_lst.S hs
  have g_m_dead := g_m_dead.S hs
  have g_m_isj := g_m_isj.S hs
  refine lv_pop hx hb dL_law_1072 rfl ?_
  refine lv_goto (tgt := 1379) hx hb dL_law_1073 (by decide) ?_
  refine W.widen (k := CC + 3) (n := SS + 179) (by omega) (by omega) ?_
  exact kk L_505 h_506 H locs ls hW ⟨hT, gx, gm, ⟨f_x_now.trans f_m_now.symm, f_x_personCount.trans f_m_persons.symm, f_x_claimCount.trans f_m_claims.symm, hx_ob f_qo_ln (f_o_ln.trans f_m_lines.symm), hx_ob f_qw (f_o_lsd.trans f_m_listed.symm), hx_ob f_qp (by rw [f_x_personCount]; exact nu_qp), hx_ob f_qc (by rw [f_x_claimCount]; exact nu_qc), (fun w q c hw hq hc => by obtain rfl : qw = w := Option.some.inj (f_qw.symm.trans hw); obtain rfl : ql = q := Option.some.inj (f_ql.symm.trans hq); obtain rfl : qc = c := Option.some.inj (f_qc.symm.trans hc); exact sb_list), (fun w q r hw hq hr => by obtain rfl : qw = w := Option.some.inj (f_qw.symm.trans hw); obtain rfl : ql = q := Option.some.inj (f_ql.symm.trans hq); obtain rfl : m_lst = r := Option.some.inj (f_m_lst.symm.trans hr); rw [cl_lst, n_lst]; exact eq_lst), hx_ob2 f_qp f_m_dead (by rw [cl_dead, n_dead]; exact eq_dead), hx_ob2 f_qp f_m_isj (by rw [cl_isj, n_isj]; exact eq_isj), hx_ob2 f_qc f_m_fou (by rw [cl_fou, n_m_fou]; exact eq_fou), hx_ob2 f_qc f_mt (by rw [cl_tri, n_mt]; exact eq_tri), trivial⟩, ⟨hx_ob f_qa pf_qa, hx_ob f_qp pf_qp, hx_ob f_qc pf_qc, hx_ob f_qh pf_qh, (fun w q hw hq => by obtain rfl : qw = w := Option.some.inj (f_qw.symm.trans hw); obtain rfl : ql = q := Option.some.inj (f_ql.symm.trans hq); exact pf_ql)⟩, ⟨hx_ob f_mw (by rw [n_mw]; exact hwd), hx_ob f_mr (by rw [n_mr, f_m_acts]; exact hWK), hx_ob2 f_mp f_mn (by rw [n_mp, n_mn, f_m_acts]; exact hRP), hx_ob f_ml (by rw [n_ml, f_m_claims, f_m_acts]; exact hPL), hx_ob f_mh (by rw [n_mh, f_m_heardMany, f_m_claims]; exact hHC), hx_ob f_mt (by rw [n_mt]; exact (hx_TR_le hTR (by omega))), hx_ob2 f_mh f_m_fou (by rw [n_mh, n_m_fou, f_m_claims]; exact hHF)⟩⟩ hl

set_option maxHeartbeats 4000000 in
set_option maxRecDepth 100000 in
theorem law_case_20 {p : Program} {e : Env} {s : State} {m : MethodId} {below : List Frame} {meth : Method} {c : Code} (l : Launch) {b LN : Nat} {xs : Nat → Int32} (hx : p.tables.exec = Jvm.exec) (hb : c.code = code) (hr : meth.sig.returnType = ret) (hlocks : meth.locks = false) (hml : c.maxLocals = 4) (hown : s.vm.findClass "SmallCourtLaw" = some m.cls) (hts : ∀ w ∈ hx_all, w.before #[Value.ref b] s = true) (hX : va_X b LN xs s s.heap) (hbl : b < s.heap.size) (hbA : ¬ s.heap.size ≤ b) (hLN : LN ≤ 3584) (dC : Nat → ClassId) (dI : Nat → Nat → Nat) (dA : Nat → ClassId) (b0 : hx_z) (ax am : Nat) (T1 : Int) (hT0 : 0 ≤ T1) (hT1 : T1 ≤ 511) (i : Int32) (hi0 : 0 ≤ i.toInt) (hiL : i.toInt + 7 ≤ LN) (CC SS : Nat) (hCC : CC + 3 ≤ 600000) (hSS : SS + 179 ≤ 7302250) (L1 : List Nat) (hl1 : hx_h) (H : Heap) (locs : List Loc) (ls : Array Slot) (hW : hx_W T_tb (P_ty dA) (dC, dI) vwCl (fun q : Nat => s.heap.size ≤ q) s.heap L1 hl1 s H locs) (hZ : hx_Xt (fun q : Nat => s.heap.size ≤ q) b0 s) (hI : hx_IV T1 ax am L1 hl1) (hl : lv_has ls 4 [(3, .int i), (2, .ref am), (1, .ref ax), (0, .ref b)]) (kk : ∀ (L2 : List Nat) (h2 : hx_h) (H2 : Heap) (locs2 : List Loc) (ls2 : Array Slot), hx_W T_tb (P_ty dA) (dC, dI) vwCl (fun q : Nat => s.heap.size ≤ q) s.heap L2 h2 s H2 locs2 → hx_IV (T1 + 1) ax am L2 h2 → lv_has ls2 4 [(3, .int i), (2, .ref am), (1, .ref ax), (0, .ref b)] → W p l e room_1 s m #[Value.ref b] below meth c H2 locs2 (CC + 3) (SS + 179) (lw_Z below #[Value.ref b] s) (F0 m 1379 ls2 [])) : W p l e room_1 s m #[Value.ref b] below meth c H locs CC SS (lw_Z below #[Value.ref b] s) (F0 m 1076 ls []) := by
  obtain ⟨hT, gx, gm, ⟨he_nw, he_np, he_c0, ho_ln, ho_lsd, hn_qp, hn_qc, hLQ, hLE, hc_dead, hc_isj, hc_fou, hc_tri, -⟩, ⟨ia, ip, ic, ih, il⟩, ⟨jw, jr, jp, jl, jh, jt, jf⟩⟩ := hI
  obtain ⟨qa, f_qa, g_qa⟩ := hx_rf hT gx tt_9 (k := 5) (u := 43) rfl
  have pf_qa := ia qa f_qa
  obtain ⟨qp, f_qp, g_qp⟩ := hx_rf hT gx tt_9 (k := 7) (u := 44) rfl
  have pf_qp := ip qp f_qp
  obtain ⟨qc, f_qc, g_qc⟩ := hx_rf hT gx tt_9 (k := 10) (u := 45) rfl
  have pf_qc := ic qc f_qc
  obtain ⟨qh, f_qh, g_qh⟩ := hx_rf hT gx tt_9 (k := 12) (u := 46) rfl
  have pf_qh := ih qh f_qh
  obtain ⟨qw, f_qw, g_qw⟩ := hx_rf hT gx tt_9 (k := 19) (u := 8) rfl
  obtain ⟨ql, f_ql, g_ql⟩ := hx_rf hT g_qw tt_8 (k := 3) (u := 40) rfl
  have pf_ql := il qw ql f_qw f_ql
  obtain ⟨nw, f_m_now⟩ : ∃ y : Int32, hl1.2.1 am 0 = y := ⟨_, rfl⟩
  have b_nw := hT.gi gm tt_10 (k := 0) rfl
  rw [f_m_now] at b_nw
  have b_nw : 0 ≤ nw.toInt ∧ nw.toInt ≤ 7999 := b_nw
  obtain ⟨np, f_m_persons⟩ : ∃ y : Int32, hl1.2.1 am 20 = y := ⟨_, rfl⟩
  have b_np := hT.gi gm tt_10 (k := 20) rfl
  rw [f_m_persons] at b_np
  have b_np : 0 ≤ np.toInt ∧ np.toInt ≤ 40 := b_np
  obtain ⟨c0, f_m_claims⟩ : ∃ y : Int32, hl1.2.1 am 36 = y := ⟨_, rfl⟩
  have b_c0 := hT.gi gm tt_10 (k := 36) rfl
  rw [f_m_claims] at b_c0
  have b_c0 : 0 ≤ c0.toInt ∧ c0.toInt ≤ 100 := b_c0
  obtain ⟨ln, f_m_lines⟩ : ∃ y : Int32, hl1.2.1 am 29 = y := ⟨_, rfl⟩
  have b_ln := hT.gi gm tt_10 (k := 29) rfl
  rw [f_m_lines] at b_ln
  have b_ln : 0 ≤ ln.toInt ∧ ln.toInt ≤ 400 := b_ln
  obtain ⟨lsd, f_m_listed⟩ : ∃ y : Int32, hl1.2.1 am 90 = y := ⟨_, rfl⟩
  have b_lsd := hT.gi gm tt_10 (k := 90) rfl
  rw [f_m_listed] at b_lsd
  have b_lsd : 0 ≤ lsd.toInt ∧ lsd.toInt ≤ 8 := b_lsd
  obtain ⟨a0, f_m_acts⟩ : ∃ y : Int32, hl1.2.1 am 1 = y := ⟨_, rfl⟩
  have b_a0 := hT.gi gm tt_10 (k := 1) rfl
  rw [f_m_acts] at b_a0
  have b_a0 : 0 ≤ a0.toInt ∧ a0.toInt ≤ 8 := b_a0
  obtain ⟨m0, f_m_heardMany⟩ : ∃ y : Int32, hl1.2.1 am 57 = y := ⟨_, rfl⟩
  have b_m0 := hT.gi gm tt_10 (k := 57) rfl
  rw [f_m_heardMany] at b_m0
  have b_m0 : 0 ≤ m0.toInt ∧ m0.toInt ≤ 100 := b_m0
  have f_x_now : hl1.2.1 ax 2 = nw := he_nw.trans f_m_now
  have f_x_personCount : hl1.2.1 ax 8 = np := he_np.trans f_m_persons
  have f_x_claimCount : hl1.2.1 ax 11 = c0 := he_c0.trans f_m_claims
  obtain ⟨mw, f_mw, g_mw⟩ := hx_rf hT gm tt_10 (k := 19) (u := 57) rfl
  obtain ⟨F_mw, n_mw⟩ : ∃ g : Nat → Int32, hl1.2.1 mw = g := ⟨_, rfl⟩
  obtain ⟨mr, f_mr, g_mr⟩ := hx_rf hT gm tt_10 (k := 3) (u := 50) rfl
  obtain ⟨F_mr, n_mr⟩ : ∃ g : Nat → Int32, hl1.2.1 mr = g := ⟨_, rfl⟩
  obtain ⟨mp, f_mp, g_mp⟩ := hx_rf hT gm tt_10 (k := 5) (u := 52) rfl
  obtain ⟨F_mp, n_mp⟩ : ∃ g : Nat → Int32, hl1.2.1 mp = g := ⟨_, rfl⟩
  obtain ⟨mn, f_mn, g_mn⟩ := hx_rf hT gm tt_10 (k := 4) (u := 51) rfl
  obtain ⟨F_mn, n_mn⟩ : ∃ g : Nat → Int32, hl1.2.1 mn = g := ⟨_, rfl⟩
  obtain ⟨ml, f_ml, g_ml⟩ := hx_rf hT gm tt_10 (k := 44) (u := 79) rfl
  obtain ⟨F_ml, n_ml⟩ : ∃ g : Nat → Int32, hl1.2.1 ml = g := ⟨_, rfl⟩
  obtain ⟨mh, f_mh, g_mh⟩ := hx_rf hT gm tt_10 (k := 47) (u := 82) rfl
  obtain ⟨F_mh, n_mh⟩ : ∃ g : Nat → Int32, hl1.2.1 mh = g := ⟨_, rfl⟩
  obtain ⟨mt, f_mt, g_mt⟩ := hx_rf hT gm tt_10 (k := 45) (u := 80) rfl
  obtain ⟨F_mt, n_mt⟩ : ∃ g : Nat → Int32, hl1.2.1 mt = g := ⟨_, rfl⟩
  obtain ⟨m_fou, f_m_fou, g_m_fou⟩ := hx_rf hT gm tt_10 (k := 46) (u := 81) rfl
  obtain ⟨F_m_fou, n_m_fou⟩ : ∃ g : Nat → Int32, hl1.2.1 m_fou = g := ⟨_, rfl⟩
  obtain ⟨qo_ln, f_qo_ln, g_qo_ln⟩ := hx_rf hT gx tt_9 (k := 9) (u := 1) rfl
  have f_o_ln : hl1.2.1 qo_ln 0 = ln := (ho_ln qo_ln f_qo_ln).trans f_m_lines
  have f_o_lsd : hl1.2.1 qw 0 = lsd := (ho_lsd qw f_qw).trans f_m_listed
  have nu_qp := hn_qp qp f_qp; rw [f_x_personCount] at nu_qp
  have nu_qc := hn_qc qc f_qc; rw [f_x_claimCount] at nu_qc
  have sb_list := hLQ qw ql qc f_qw f_ql f_qc
  obtain ⟨m_lst, f_m_lst, g_m_lst⟩ := hx_rf hT gm tt_10 (k := 91) (u := 112) rfl
  obtain ⟨F_lst, n_lst⟩ : ∃ g : Nat → Int32, hl1.2.1 m_lst = g := ⟨_, rfl⟩
  obtain ⟨c_lst, cl_lst⟩ : ∃ g : Nat → Int32, hx_col 8 hl1 ql 0 = g := ⟨_, rfl⟩
  have eq_lst := hLE qw ql m_lst f_qw f_ql f_m_lst; rw [cl_lst, n_lst] at eq_lst
  obtain ⟨c_dead, cl_dead⟩ : ∃ g : Nat → Int32, hx_col 40 hl1 qp 7 = g := ⟨_, rfl⟩
  obtain ⟨m_dead, f_m_dead, g_m_dead⟩ := hx_rf hT gm tt_10 (k := 27) (u := 64) rfl
  obtain ⟨F_dead, n_dead⟩ : ∃ g : Nat → Int32, hl1.2.1 m_dead = g := ⟨_, rfl⟩
  have eq_dead := hc_dead qp m_dead f_qp f_m_dead; rw [cl_dead, n_dead] at eq_dead
  have z_dead : np.toInt.toNat < 40 → c_dead np.toInt.toNat = 0 := fun hj => hx_num_z nu_qp cl_dead hj (by omega)
  obtain ⟨c_isj, cl_isj⟩ : ∃ g : Nat → Int32, hx_col 40 hl1 qp 8 = g := ⟨_, rfl⟩
  obtain ⟨m_isj, f_m_isj, g_m_isj⟩ := hx_rf hT gm tt_10 (k := 28) (u := 65) rfl
  obtain ⟨F_isj, n_isj⟩ : ∃ g : Nat → Int32, hl1.2.1 m_isj = g := ⟨_, rfl⟩
  have eq_isj := hc_isj qp m_isj f_qp f_m_isj; rw [cl_isj, n_isj] at eq_isj
  have z_isj : np.toInt.toNat < 40 → c_isj np.toInt.toNat = 0 := fun hj => hx_num_z nu_qp cl_isj hj (by omega)
  obtain ⟨c_fou, cl_fou⟩ : ∃ g : Nat → Int32, hx_col 100 hl1 qc 10 = g := ⟨_, rfl⟩
  have eq_fou := hc_fou qc m_fou f_qc f_m_fou; rw [cl_fou, n_m_fou] at eq_fou
  have z_fou : c0.toInt.toNat < 100 → c_fou c0.toInt.toNat = 0 := fun hj => hx_num_z nu_qc cl_fou hj (by omega)
  obtain ⟨c_tri, cl_tri⟩ : ∃ g : Nat → Int32, hx_col 100 hl1 qc 9 = g := ⟨_, rfl⟩
  have eq_tri := hc_tri qc mt f_qc f_mt; rw [cl_tri, n_mt] at eq_tri
  have z_tri : c0.toInt.toNat < 100 → c_tri c0.toInt.toNat = 0 := fun hj => hx_num_z nu_qc cl_tri hj (by omega)
  have hwd := jw mw f_mw; rw [n_mw] at hwd
  have hWK := jr mr f_mr; rw [n_mr, f_m_acts] at hWK
  have hRP := jp mp mn f_mp f_mn; rw [n_mp, n_mn, f_m_acts] at hRP
  have hPL := jl ml f_ml; rw [n_ml, f_m_claims, f_m_acts] at hPL
  have hHC := jh mh f_mh; rw [n_mh, f_m_heardMany, f_m_claims] at hHC
  have hTR := jt mt f_mt; rw [n_mt] at hTR
  have hHF := jf mh m_fou f_mh f_m_fou; rw [n_mh, n_m_fou, f_m_claims] at hHF
  refine lv_aload_n hx hb dL_law_1076 rfl (lv_at hl 2 rfl) ?_
  refine lv_aload_n hx hb dL_law_1077 rfl (lv_at hl 3 rfl) ?_
  refine lv_iload_n hx hb dL_law_1078 rfl (lv_at hl 0 rfl) ?_
  refine lv_iconst (v := 1) hx hb dL_law_1079 (by decide) ?_
  refine lv_iadd hx hb dL_law_1080 ?_
  have rg_510 := i32_r i
  refine lv_topi (fun x_511 ex_511 => ?_)
  have zx_511 : x_511.toInt = i.toInt + 1 := by rw [ex_511]; exact i32_add rfl (by decide) (by omega) (by omega)
  refine va_sld hx hb hX hbl hbA hW.2.2.2.1 (vp_in_iff.mpr ⟨by omega, by omega⟩) dL_law_1081 ?_
  refine lv_topi (fun x_512 ex_512 => ?_)
  refine lv_aload_n hx hb dL_law_1082 rfl (lv_at hl 3 rfl) ?_
  refine lv_iload_n hx hb dL_law_1083 rfl (lv_at hl 0 rfl) ?_
  refine lv_iconst (v := 2) hx hb dL_law_1084 (by decide) ?_
  refine lv_iadd hx hb dL_law_1085 ?_
  refine lv_topi (fun x_513 ex_513 => ?_)
  have zx_513 : x_513.toInt = i.toInt + 2 := by rw [ex_513]; exact i32_add rfl (by decide) (by omega) (by omega)
  refine va_sld hx hb hX hbl hbA hW.2.2.2.1 (vp_in_iff.mpr ⟨by omega, by omega⟩) dL_law_1086 ?_
  refine lv_topi (fun x_514 ex_514 => ?_)
  refine lv_aload_n hx hb dL_law_1087 rfl (lv_at hl 3 rfl) ?_
  refine lv_iload_n hx hb dL_law_1088 rfl (lv_at hl 0 rfl) ?_
  refine lv_iconst (v := 3) hx hb dL_law_1089 (by decide) ?_
  refine lv_iadd hx hb dL_law_1090 ?_
  refine lv_topi (fun x_515 ex_515 => ?_)
  have zx_515 : x_515.toInt = i.toInt + 3 := by rw [ex_515]; exact i32_add rfl (by decide) (by omega) (by omega)
  refine va_sld hx hb hX hbl hbA hW.2.2.2.1 (vp_in_iff.mpr ⟨by omega, by omega⟩) dL_law_1091 ?_
  refine lv_topi (fun x_516 ex_516 => ?_)
  refine lv_aload_n hx hb dL_law_1092 rfl (lv_at hl 3 rfl) ?_
  refine lv_iload_n hx hb dL_law_1093 rfl (lv_at hl 0 rfl) ?_
  refine lv_iconst (v := 4) hx hb dL_law_1094 (by decide) ?_
  refine lv_iadd hx hb dL_law_1095 ?_
  refine lv_topi (fun x_517 ex_517 => ?_)
  have zx_517 : x_517.toInt = i.toInt + 4 := by rw [ex_517]; exact i32_add rfl (by decide) (by omega) (by omega)
  refine va_sld hx hb hX hbl hbA hW.2.2.2.1 (vp_in_iff.mpr ⟨by omega, by omega⟩) dL_law_1096 ?_
  refine lv_topi (fun x_518 ex_518 => ?_)
  have hTo := hT
  refine hx_goi (hx_runVX (As := [.int x_512, .int x_514, .int x_516, .int x_518]) (rest := []) ⟨hx, hb, hml, hown, hts⟩ hW gx tt_9 (T := TX9) (N := 20) rfl (t_X9_state l dC dI dA L1 hl1 H.size b0 ax x_512 x_514 x_516 x_518 hT gx qc g_qc f_qc pf_qc) hZ (cwV 4 hts (hx_gV kw_937 kw_934 kw_935 kw_936 kw_94) rfl rfl rfl (by decide +kernel) ⟨Nat.le_of_ble_eq_true rfl, Nat.le_of_ble_eq_true rfl⟩) rfl hl.1 rfl (Nat.le_of_ble_eq_true rfl) dL_law_1097 ⟨(show CC + 0 ≤ 600000 from by omega), (show SS + 0 ≤ 7302250 from by omega)⟩) hW (fun r_521 L_519 h_520 H locs p_522 hW => ?_)
  obtain ⟨hr_523, hT, hs⟩ := p_522
  have hT : hx_T T_tb L_519 h_520 := hT
  have hs : hx_S T_tb [] L1 hl1 L_519 h_520 := hs
  have f_qa := (hs.o gx trivial rfl).2.trans f_qa
  have f_qp := (hs.o gx trivial rfl).2.trans f_qp
  have f_qc := (hs.o gx trivial rfl).2.trans f_qc
  have f_qh := (hs.o gx trivial rfl).2.trans f_qh
  have f_qw := (hs.o gx trivial rfl).2.trans f_qw
  have f_ql := (hs.o g_qw trivial rfl).2.trans f_ql
  have f_m_now := (hs.o gm trivial rfl).1.trans f_m_now
  have f_m_persons := (hs.o gm trivial rfl).1.trans f_m_persons
  have f_m_claims := (hs.o gm trivial rfl).1.trans f_m_claims
  have f_m_lines := (hs.o gm trivial rfl).1.trans f_m_lines
  have f_m_listed := (hs.o gm trivial rfl).1.trans f_m_listed
  have f_m_acts := (hs.o gm trivial rfl).1.trans f_m_acts
  have f_m_heardMany := (hs.o gm trivial rfl).1.trans f_m_heardMany
  have f_x_now := (hs.o gx trivial rfl).1.trans f_x_now
  have f_x_personCount := (hs.o gx trivial rfl).1.trans f_x_personCount
  have f_x_claimCount := (hs.o gx trivial rfl).1.trans f_x_claimCount
  have f_mw := (hs.o gm trivial rfl).2.trans f_mw
  have f_mr := (hs.o gm trivial rfl).2.trans f_mr
  have f_mp := (hs.o gm trivial rfl).2.trans f_mp
  have f_mn := (hs.o gm trivial rfl).2.trans f_mn
  have f_ml := (hs.o gm trivial rfl).2.trans f_ml
  have f_mh := (hs.o gm trivial rfl).2.trans f_mh
  have f_mt := (hs.o gm trivial rfl).2.trans f_mt
  have f_m_fou := (hs.o gm trivial rfl).2.trans f_m_fou
  have f_qo_ln := (hs.o gx trivial rfl).2.trans f_qo_ln
  have f_o_ln := (hs.o g_qo_ln trivial rfl).1.trans f_o_ln
  have f_o_lsd := (hs.o g_qw trivial rfl).1.trans f_o_lsd
  have f_m_lst := (hs.o gm trivial rfl).2.trans f_m_lst
  have f_m_dead := (hs.o gm trivial rfl).2.trans f_m_dead
  have f_m_isj := (hs.o gm trivial rfl).2.trans f_m_isj
  have pf_qa : ∀ j : Nat, (j : Int) < (h_520.2.1 ax 6).toInt → h_520.2.2 qa j ≠ none := by
    intro j hj; rw [(hs.o gx trivial rfl).1] at hj; rw [(hs.a g_qa rfl j).2]; exact pf_qa j hj
  have pf_qp : ∀ j : Nat, (j : Int) < (h_520.2.1 ax 8).toInt → h_520.2.2 qp j ≠ none := by
    intro j hj; rw [(hs.o gx trivial rfl).1] at hj; rw [(hs.a g_qp rfl j).2]; exact pf_qp j hj
  have pf_qc : ∀ j : Nat, (j : Int) < (h_520.2.1 ax 11).toInt → h_520.2.2 qc j ≠ none := by
    intro j hj; rw [(hs.o gx trivial rfl).1] at hj; rw [(hs.a g_qc rfl j).2]; exact pf_qc j hj
  have pf_qh : ∀ j : Nat, (j : Int) < (h_520.2.1 ax 13).toInt → h_520.2.2 qh j ≠ none := by
    intro j hj; rw [(hs.o gx trivial rfl).1] at hj; rw [(hs.a g_qh rfl j).2]; exact pf_qh j hj
  have pf_ql : ∀ j : Nat, (j : Int) < (h_520.2.1 qw 0).toInt → h_520.2.2 ql j ≠ none := by
    intro j hj; rw [(hs.o g_qw trivial rfl).1] at hj; rw [(hs.a g_ql rfl j).2]; exact pf_ql j hj
  have cl_lst : hx_col 8 h_520 ql 0 = c_lst := (hx_col_S hs hTo g_ql tt_40 tt_2 rfl rfl).trans cl_lst
  have cl_dead : hx_col 40 h_520 qp 7 = c_dead := (hx_col_S hs hTo g_qp tt_44 tt_4 rfl rfl).trans cl_dead
  have cl_isj : hx_col 40 h_520 qp 8 = c_isj := (hx_col_S hs hTo g_qp tt_44 tt_4 rfl rfl).trans cl_isj
  have cl_fou : hx_col 100 h_520 qc 10 = c_fou := (hx_col_S hs hTo g_qc tt_45 tt_2 rfl rfl).trans cl_fou
  have cl_tri : hx_col 100 h_520 qc 9 = c_tri := (hx_col_S hs hTo g_qc tt_45 tt_2 rfl rfl).trans cl_tri
  have nu_qp : hx_num 40 h_520 qp 0 (np.toInt) := hx_num_S hs hTo g_qp tt_44 tt_4 rfl rfl nu_qp
  have nu_qc : hx_num 100 h_520 qc 0 (c0.toInt) := hx_num_S hs hTo g_qc tt_45 tt_2 rfl rfl nu_qc
  have sb_list : hx_LQ 8 100 h_520 ql qc := hx_LQ_S hs g_ql g_qc rfl rfl sb_list
  have n_mw : h_520.2.1 mw = F_mw := (funext fun j => (hs.a g_mw rfl j).1).trans n_mw
  have n_mr : h_520.2.1 mr = F_mr := (funext fun j => (hs.a g_mr rfl j).1).trans n_mr
  have n_mp : h_520.2.1 mp = F_mp := (funext fun j => (hs.a g_mp rfl j).1).trans n_mp
  have n_mn : h_520.2.1 mn = F_mn := (funext fun j => (hs.a g_mn rfl j).1).trans n_mn
  have n_ml : h_520.2.1 ml = F_ml := (funext fun j => (hs.a g_ml rfl j).1).trans n_ml
  have n_mh : h_520.2.1 mh = F_mh := (funext fun j => (hs.a g_mh rfl j).1).trans n_mh
  have n_mt : h_520.2.1 mt = F_mt := (funext fun j => (hs.a g_mt rfl j).1).trans n_mt
  have n_m_fou : h_520.2.1 m_fou = F_m_fou := (funext fun j => (hs.a g_m_fou rfl j).1).trans n_m_fou
  have n_lst : h_520.2.1 m_lst = F_lst := (funext fun j => (hs.a g_m_lst rfl j).1).trans n_lst
  have n_dead : h_520.2.1 m_dead = F_dead := (funext fun j => (hs.a g_m_dead rfl j).1).trans n_dead
  have n_isj : h_520.2.1 m_isj = F_isj := (funext fun j => (hs.a g_m_isj rfl j).1).trans n_isj
  have gx := gx.S hs
  have gm := gm.S hs
  have g_qa := g_qa.S hs
  have g_qp := g_qp.S hs
  have g_qc := g_qc.S hs
  have g_qh := g_qh.S hs
  have g_qw := g_qw.S hs
  have g_ql := g_ql.S hs
  have g_mw := g_mw.S hs
  have g_mr := g_mr.S hs
  have g_mp := g_mp.S hs
  have g_mn := g_mn.S hs
  have g_ml := g_ml.S hs
  have g_mh := g_mh.S hs
  have g_mt := g_mt.S hs
  have g_m_fou := g_m_fou.S hs
  have g_qo_ln := g_qo_ln.S hs
  have g_m_lst := g_m_lst.S hs
  have g_m_dead := g_m_dead.S hs
  have g_m_isj := g_m_isj.S hs
  refine lv_pop hx hb dL_law_1100 rfl ?_
  refine lv_aload_n hx hb dL_law_1101 rfl (lv_at hl 1 rfl) ?_
  refine lv_aload_n hx hb dL_law_1102 rfl (lv_at hl 3 rfl) ?_
  refine lv_iload_n hx hb dL_law_1103 rfl (lv_at hl 0 rfl) ?_
  refine lv_iconst (v := 1) hx hb dL_law_1104 (by decide) ?_
  refine lv_iadd hx hb dL_law_1105 ?_
  refine lv_topi (fun x_524 ex_524 => ?_)
  have zx_524 : x_524.toInt = i.toInt + 1 := by rw [ex_524]; exact i32_add rfl (by decide) (by omega) (by omega)
  obtain rfl : x_511 = x_524 := ex_511.trans ex_524.symm
  refine va_sld hx hb hX hbl hbA hW.2.2.2.1 (vp_in_iff.mpr ⟨by omega, by omega⟩) dL_law_1106 ?_
  refine lv_topi (fun x_525 ex_525 => ?_)
  obtain rfl : x_512 = x_525 := ex_512.trans ex_525.symm
  refine lv_aload_n hx hb dL_law_1107 rfl (lv_at hl 3 rfl) ?_
  refine lv_iload_n hx hb dL_law_1108 rfl (lv_at hl 0 rfl) ?_
  refine lv_iconst (v := 2) hx hb dL_law_1109 (by decide) ?_
  refine lv_iadd hx hb dL_law_1110 ?_
  refine lv_topi (fun x_526 ex_526 => ?_)
  have zx_526 : x_526.toInt = i.toInt + 2 := by rw [ex_526]; exact i32_add rfl (by decide) (by omega) (by omega)
  obtain rfl : x_513 = x_526 := ex_513.trans ex_526.symm
  refine va_sld hx hb hX hbl hbA hW.2.2.2.1 (vp_in_iff.mpr ⟨by omega, by omega⟩) dL_law_1111 ?_
  refine lv_topi (fun x_527 ex_527 => ?_)
  obtain rfl : x_514 = x_527 := ex_514.trans ex_527.symm
  refine lv_aload_n hx hb dL_law_1112 rfl (lv_at hl 3 rfl) ?_
  refine lv_iload_n hx hb dL_law_1113 rfl (lv_at hl 0 rfl) ?_
  refine lv_iconst (v := 3) hx hb dL_law_1114 (by decide) ?_
  refine lv_iadd hx hb dL_law_1115 ?_
  refine lv_topi (fun x_528 ex_528 => ?_)
  have zx_528 : x_528.toInt = i.toInt + 3 := by rw [ex_528]; exact i32_add rfl (by decide) (by omega) (by omega)
  obtain rfl : x_515 = x_528 := ex_515.trans ex_528.symm
  refine va_sld hx hb hX hbl hbA hW.2.2.2.1 (vp_in_iff.mpr ⟨by omega, by omega⟩) dL_law_1116 ?_
  refine lv_topi (fun x_529 ex_529 => ?_)
  obtain rfl : x_516 = x_529 := ex_516.trans ex_529.symm
  refine lv_aload_n hx hb dL_law_1117 rfl (lv_at hl 3 rfl) ?_
  refine lv_iload_n hx hb dL_law_1118 rfl (lv_at hl 0 rfl) ?_
  refine lv_iconst (v := 4) hx hb dL_law_1119 (by decide) ?_
  refine lv_iadd hx hb dL_law_1120 ?_
  refine lv_topi (fun x_530 ex_530 => ?_)
  have zx_530 : x_530.toInt = i.toInt + 4 := by rw [ex_530]; exact i32_add rfl (by decide) (by omega) (by omega)
  obtain rfl : x_517 = x_530 := ex_517.trans ex_530.symm
  refine va_sld hx hb hX hbl hbA hW.2.2.2.1 (vp_in_iff.mpr ⟨by omega, by omega⟩) dL_law_1121 ?_
  refine lv_topi (fun x_531 ex_531 => ?_)
  obtain rfl : x_518 = x_531 := ex_518.trans ex_531.symm
  have hTo := hT
  refine hx_goi (hx_runV (As := [.int x_512, .int x_514, .int x_516, .int x_518]) (rest := []) ⟨hx, hb, hml, hown, hts⟩ hW gm tt_10 (T := TX10) (N := 98) rfl (t_X10_state l dC dI dA L_519 h_520 H.size am x_512 x_514 x_516 x_518 hT gm) (cwV 4 hts (hx_gV kw_1673 kw_1670 kw_1671 kw_1672 kw_103) rfl rfl rfl (by decide +kernel) ⟨Nat.le_of_ble_eq_true rfl, Nat.le_of_ble_eq_true rfl⟩) rfl hl.1 rfl (Nat.le_of_ble_eq_true rfl) dL_law_1122 ⟨(show CC + 0 + 0 ≤ 600000 from by omega), (show SS + 0 + 0 ≤ 7302250 from by omega)⟩) hW (fun r_534 L_532 h_533 H locs p_535 hW => ?_)
  obtain ⟨hr_536, hT, hs⟩ := p_535
  have hT : hx_T T_tb L_532 h_533 := hT
  have hs : hx_S T_tb [(10, 67), (10, 68), (10, 69), (10, 70), (10, 71)] L_519 h_520 L_532 h_533 := hs
  have f_qa := (hs.o gx trivial rfl).2.trans f_qa
  have f_qp := (hs.o gx trivial rfl).2.trans f_qp
  have f_qc := (hs.o gx trivial rfl).2.trans f_qc
  have f_qh := (hs.o gx trivial rfl).2.trans f_qh
  have f_qw := (hs.o gx trivial rfl).2.trans f_qw
  have f_ql := (hs.o g_qw trivial rfl).2.trans f_ql
  have f_m_now := (hs.o gm trivial rfl).1.trans f_m_now
  have f_m_persons := (hs.o gm trivial rfl).1.trans f_m_persons
  have f_m_claims := (hs.o gm trivial rfl).1.trans f_m_claims
  have f_m_lines := (hs.o gm trivial rfl).1.trans f_m_lines
  have f_m_listed := (hs.o gm trivial rfl).1.trans f_m_listed
  have f_m_acts := (hs.o gm trivial rfl).1.trans f_m_acts
  have f_m_heardMany := (hs.o gm trivial rfl).1.trans f_m_heardMany
  have f_x_now := (hs.o gx trivial rfl).1.trans f_x_now
  have f_x_personCount := (hs.o gx trivial rfl).1.trans f_x_personCount
  have f_x_claimCount := (hs.o gx trivial rfl).1.trans f_x_claimCount
  have f_mw := (hs.o gm trivial rfl).2.trans f_mw
  have f_mr := (hs.o gm trivial rfl).2.trans f_mr
  have f_mp := (hs.o gm trivial rfl).2.trans f_mp
  have f_mn := (hs.o gm trivial rfl).2.trans f_mn
  have f_ml := (hs.o gm trivial rfl).2.trans f_ml
  have f_mh := (hs.o gm trivial rfl).2.trans f_mh
  have f_mt := (hs.o gm trivial rfl).2.trans f_mt
  have f_m_fou := (hs.o gm trivial rfl).2.trans f_m_fou
  have f_qo_ln := (hs.o gx trivial rfl).2.trans f_qo_ln
  have f_o_ln := (hs.o g_qo_ln trivial rfl).1.trans f_o_ln
  have f_o_lsd := (hs.o g_qw trivial rfl).1.trans f_o_lsd
  have f_m_lst := (hs.o gm trivial rfl).2.trans f_m_lst
  have f_m_dead := (hs.o gm trivial rfl).2.trans f_m_dead
  have f_m_isj := (hs.o gm trivial rfl).2.trans f_m_isj
  have pf_qa : ∀ j : Nat, (j : Int) < (h_533.2.1 ax 6).toInt → h_533.2.2 qa j ≠ none := by
    intro j hj; rw [(hs.o gx trivial rfl).1] at hj; rw [(hs.a g_qa rfl j).2]; exact pf_qa j hj
  have pf_qp : ∀ j : Nat, (j : Int) < (h_533.2.1 ax 8).toInt → h_533.2.2 qp j ≠ none := by
    intro j hj; rw [(hs.o gx trivial rfl).1] at hj; rw [(hs.a g_qp rfl j).2]; exact pf_qp j hj
  have pf_qc : ∀ j : Nat, (j : Int) < (h_533.2.1 ax 11).toInt → h_533.2.2 qc j ≠ none := by
    intro j hj; rw [(hs.o gx trivial rfl).1] at hj; rw [(hs.a g_qc rfl j).2]; exact pf_qc j hj
  have pf_qh : ∀ j : Nat, (j : Int) < (h_533.2.1 ax 13).toInt → h_533.2.2 qh j ≠ none := by
    intro j hj; rw [(hs.o gx trivial rfl).1] at hj; rw [(hs.a g_qh rfl j).2]; exact pf_qh j hj
  have pf_ql : ∀ j : Nat, (j : Int) < (h_533.2.1 qw 0).toInt → h_533.2.2 ql j ≠ none := by
    intro j hj; rw [(hs.o g_qw trivial rfl).1] at hj; rw [(hs.a g_ql rfl j).2]; exact pf_ql j hj
  have cl_lst : hx_col 8 h_533 ql 0 = c_lst := (hx_col_S hs hTo g_ql tt_40 tt_2 rfl rfl).trans cl_lst
  have cl_dead : hx_col 40 h_533 qp 7 = c_dead := (hx_col_S hs hTo g_qp tt_44 tt_4 rfl rfl).trans cl_dead
  have cl_isj : hx_col 40 h_533 qp 8 = c_isj := (hx_col_S hs hTo g_qp tt_44 tt_4 rfl rfl).trans cl_isj
  have cl_fou : hx_col 100 h_533 qc 10 = c_fou := (hx_col_S hs hTo g_qc tt_45 tt_2 rfl rfl).trans cl_fou
  have cl_tri : hx_col 100 h_533 qc 9 = c_tri := (hx_col_S hs hTo g_qc tt_45 tt_2 rfl rfl).trans cl_tri
  have nu_qp : hx_num 40 h_533 qp 0 (np.toInt) := hx_num_S hs hTo g_qp tt_44 tt_4 rfl rfl nu_qp
  have nu_qc : hx_num 100 h_533 qc 0 (c0.toInt) := hx_num_S hs hTo g_qc tt_45 tt_2 rfl rfl nu_qc
  have sb_list : hx_LQ 8 100 h_533 ql qc := hx_LQ_S hs g_ql g_qc rfl rfl sb_list
  have n_mw : h_533.2.1 mw = F_mw := (funext fun j => (hs.a g_mw rfl j).1).trans n_mw
  have n_mr : h_533.2.1 mr = F_mr := (funext fun j => (hs.a g_mr rfl j).1).trans n_mr
  have n_mp : h_533.2.1 mp = F_mp := (funext fun j => (hs.a g_mp rfl j).1).trans n_mp
  have n_mn : h_533.2.1 mn = F_mn := (funext fun j => (hs.a g_mn rfl j).1).trans n_mn
  have n_ml : h_533.2.1 ml = F_ml := (funext fun j => (hs.a g_ml rfl j).1).trans n_ml
  have n_mh : h_533.2.1 mh = F_mh := (funext fun j => (hs.a g_mh rfl j).1).trans n_mh
  have n_mt : h_533.2.1 mt = F_mt := (funext fun j => (hs.a g_mt rfl j).1).trans n_mt
  have n_m_fou : h_533.2.1 m_fou = F_m_fou := (funext fun j => (hs.a g_m_fou rfl j).1).trans n_m_fou
  have n_lst : h_533.2.1 m_lst = F_lst := (funext fun j => (hs.a g_m_lst rfl j).1).trans n_lst
  have n_dead : h_533.2.1 m_dead = F_dead := (funext fun j => (hs.a g_m_dead rfl j).1).trans n_dead
  have n_isj : h_533.2.1 m_isj = F_isj := (funext fun j => (hs.a g_m_isj rfl j).1).trans n_isj
  have gx := gx.S hs
  have gm := gm.S hs
  have g_qa := g_qa.S hs
  have g_qp := g_qp.S hs
  have g_qc := g_qc.S hs
  have g_qh := g_qh.S hs
  have g_qw := g_qw.S hs
  have g_ql := g_ql.S hs
  have g_mw := g_mw.S hs
  have g_mr := g_mr.S hs
  have g_mp := g_mp.S hs
  have g_mn := g_mn.S hs
  have g_ml := g_ml.S hs
  have g_mh := g_mh.S hs
  have g_mt := g_mt.S hs
  have g_m_fou := g_m_fou.S hs
  have g_qo_ln := g_qo_ln.S hs
  have g_m_lst := g_m_lst.S hs
  have g_m_dead := g_m_dead.S hs
  have g_m_isj := g_m_isj.S hs
  refine lv_pop hx hb dL_law_1125 rfl ?_
  refine lv_goto (tgt := 1379) hx hb dL_law_1126 (by decide) ?_
  refine W.widen (k := CC + 3) (n := SS + 179) (by omega) (by omega) ?_
  exact kk L_532 h_533 H locs ls hW ⟨hT, gx, gm, ⟨f_x_now.trans f_m_now.symm, f_x_personCount.trans f_m_persons.symm, f_x_claimCount.trans f_m_claims.symm, hx_ob f_qo_ln (f_o_ln.trans f_m_lines.symm), hx_ob f_qw (f_o_lsd.trans f_m_listed.symm), hx_ob f_qp (by rw [f_x_personCount]; exact nu_qp), hx_ob f_qc (by rw [f_x_claimCount]; exact nu_qc), (fun w q c hw hq hc => by obtain rfl : qw = w := Option.some.inj (f_qw.symm.trans hw); obtain rfl : ql = q := Option.some.inj (f_ql.symm.trans hq); obtain rfl : qc = c := Option.some.inj (f_qc.symm.trans hc); exact sb_list), (fun w q r hw hq hr => by obtain rfl : qw = w := Option.some.inj (f_qw.symm.trans hw); obtain rfl : ql = q := Option.some.inj (f_ql.symm.trans hq); obtain rfl : m_lst = r := Option.some.inj (f_m_lst.symm.trans hr); rw [cl_lst, n_lst]; exact eq_lst), hx_ob2 f_qp f_m_dead (by rw [cl_dead, n_dead]; exact eq_dead), hx_ob2 f_qp f_m_isj (by rw [cl_isj, n_isj]; exact eq_isj), hx_ob2 f_qc f_m_fou (by rw [cl_fou, n_m_fou]; exact eq_fou), hx_ob2 f_qc f_mt (by rw [cl_tri, n_mt]; exact eq_tri), trivial⟩, ⟨hx_ob f_qa pf_qa, hx_ob f_qp pf_qp, hx_ob f_qc pf_qc, hx_ob f_qh pf_qh, (fun w q hw hq => by obtain rfl : qw = w := Option.some.inj (f_qw.symm.trans hw); obtain rfl : ql = q := Option.some.inj (f_ql.symm.trans hq); exact pf_ql)⟩, ⟨hx_ob f_mw (by rw [n_mw]; exact hwd), hx_ob f_mr (by rw [n_mr, f_m_acts]; exact hWK), hx_ob2 f_mp f_mn (by rw [n_mp, n_mn, f_m_acts]; exact hRP), hx_ob f_ml (by rw [n_ml, f_m_claims, f_m_acts]; exact hPL), hx_ob f_mh (by rw [n_mh, f_m_heardMany, f_m_claims]; exact hHC), hx_ob f_mt (by rw [n_mt]; exact (hx_TR_le hTR (by omega))), hx_ob2 f_mh f_m_fou (by rw [n_mh, n_m_fou, f_m_claims]; exact hHF)⟩⟩ hl

set_option maxHeartbeats 4000000 in
set_option maxRecDepth 100000 in
theorem law_case_21 {p : Program} {e : Env} {s : State} {m : MethodId} {below : List Frame} {meth : Method} {c : Code} (l : Launch) {b LN : Nat} {xs : Nat → Int32} (hx : p.tables.exec = Jvm.exec) (hb : c.code = code) (hr : meth.sig.returnType = ret) (hlocks : meth.locks = false) (hml : c.maxLocals = 4) (hown : s.vm.findClass "SmallCourtLaw" = some m.cls) (hts : ∀ w ∈ hx_all, w.before #[Value.ref b] s = true) (hX : va_X b LN xs s s.heap) (hbl : b < s.heap.size) (hbA : ¬ s.heap.size ≤ b) (hLN : LN ≤ 3584) (dC : Nat → ClassId) (dI : Nat → Nat → Nat) (dA : Nat → ClassId) (b0 : hx_z) (ax am : Nat) (T1 : Int) (hT0 : 0 ≤ T1) (hT1 : T1 ≤ 511) (i : Int32) (hi0 : 0 ≤ i.toInt) (hiL : i.toInt + 7 ≤ LN) (CC SS : Nat) (hCC : CC + 3 ≤ 600000) (hSS : SS + 179 ≤ 7302250) (L1 : List Nat) (hl1 : hx_h) (H : Heap) (locs : List Loc) (ls : Array Slot) (hW : hx_W T_tb (P_ty dA) (dC, dI) vwCl (fun q : Nat => s.heap.size ≤ q) s.heap L1 hl1 s H locs) (hZ : hx_Xt (fun q : Nat => s.heap.size ≤ q) b0 s) (hI : hx_IV T1 ax am L1 hl1) (hl : lv_has ls 4 [(3, .int i), (2, .ref am), (1, .ref ax), (0, .ref b)]) (kk : ∀ (L2 : List Nat) (h2 : hx_h) (H2 : Heap) (locs2 : List Loc) (ls2 : Array Slot), hx_W T_tb (P_ty dA) (dC, dI) vwCl (fun q : Nat => s.heap.size ≤ q) s.heap L2 h2 s H2 locs2 → hx_IV (T1 + 1) ax am L2 h2 → lv_has ls2 4 [(3, .int i), (2, .ref am), (1, .ref ax), (0, .ref b)] → W p l e room_1 s m #[Value.ref b] below meth c H2 locs2 (CC + 3) (SS + 179) (lw_Z below #[Value.ref b] s) (F0 m 1379 ls2 [])) : W p l e room_1 s m #[Value.ref b] below meth c H locs CC SS (lw_Z below #[Value.ref b] s) (F0 m 1129 ls []) := by
  obtain ⟨hT, gx, gm, ⟨he_nw, he_np, he_c0, ho_ln, ho_lsd, hn_qp, hn_qc, hLQ, hLE, hc_dead, hc_isj, hc_fou, hc_tri, -⟩, ⟨ia, ip, ic, ih, il⟩, ⟨jw, jr, jp, jl, jh, jt, jf⟩⟩ := hI
  obtain ⟨qa, f_qa, g_qa⟩ := hx_rf hT gx tt_9 (k := 5) (u := 43) rfl
  have pf_qa := ia qa f_qa
  obtain ⟨qp, f_qp, g_qp⟩ := hx_rf hT gx tt_9 (k := 7) (u := 44) rfl
  have pf_qp := ip qp f_qp
  obtain ⟨qc, f_qc, g_qc⟩ := hx_rf hT gx tt_9 (k := 10) (u := 45) rfl
  have pf_qc := ic qc f_qc
  obtain ⟨qh, f_qh, g_qh⟩ := hx_rf hT gx tt_9 (k := 12) (u := 46) rfl
  have pf_qh := ih qh f_qh
  obtain ⟨qw, f_qw, g_qw⟩ := hx_rf hT gx tt_9 (k := 19) (u := 8) rfl
  obtain ⟨ql, f_ql, g_ql⟩ := hx_rf hT g_qw tt_8 (k := 3) (u := 40) rfl
  have pf_ql := il qw ql f_qw f_ql
  obtain ⟨nw, f_m_now⟩ : ∃ y : Int32, hl1.2.1 am 0 = y := ⟨_, rfl⟩
  have b_nw := hT.gi gm tt_10 (k := 0) rfl
  rw [f_m_now] at b_nw
  have b_nw : 0 ≤ nw.toInt ∧ nw.toInt ≤ 7999 := b_nw
  obtain ⟨np, f_m_persons⟩ : ∃ y : Int32, hl1.2.1 am 20 = y := ⟨_, rfl⟩
  have b_np := hT.gi gm tt_10 (k := 20) rfl
  rw [f_m_persons] at b_np
  have b_np : 0 ≤ np.toInt ∧ np.toInt ≤ 40 := b_np
  obtain ⟨c0, f_m_claims⟩ : ∃ y : Int32, hl1.2.1 am 36 = y := ⟨_, rfl⟩
  have b_c0 := hT.gi gm tt_10 (k := 36) rfl
  rw [f_m_claims] at b_c0
  have b_c0 : 0 ≤ c0.toInt ∧ c0.toInt ≤ 100 := b_c0
  obtain ⟨ln, f_m_lines⟩ : ∃ y : Int32, hl1.2.1 am 29 = y := ⟨_, rfl⟩
  have b_ln := hT.gi gm tt_10 (k := 29) rfl
  rw [f_m_lines] at b_ln
  have b_ln : 0 ≤ ln.toInt ∧ ln.toInt ≤ 400 := b_ln
  obtain ⟨lsd, f_m_listed⟩ : ∃ y : Int32, hl1.2.1 am 90 = y := ⟨_, rfl⟩
  have b_lsd := hT.gi gm tt_10 (k := 90) rfl
  rw [f_m_listed] at b_lsd
  have b_lsd : 0 ≤ lsd.toInt ∧ lsd.toInt ≤ 8 := b_lsd
  obtain ⟨a0, f_m_acts⟩ : ∃ y : Int32, hl1.2.1 am 1 = y := ⟨_, rfl⟩
  have b_a0 := hT.gi gm tt_10 (k := 1) rfl
  rw [f_m_acts] at b_a0
  have b_a0 : 0 ≤ a0.toInt ∧ a0.toInt ≤ 8 := b_a0
  obtain ⟨m0, f_m_heardMany⟩ : ∃ y : Int32, hl1.2.1 am 57 = y := ⟨_, rfl⟩
  have b_m0 := hT.gi gm tt_10 (k := 57) rfl
  rw [f_m_heardMany] at b_m0
  have b_m0 : 0 ≤ m0.toInt ∧ m0.toInt ≤ 100 := b_m0
  have f_x_now : hl1.2.1 ax 2 = nw := he_nw.trans f_m_now
  have f_x_personCount : hl1.2.1 ax 8 = np := he_np.trans f_m_persons
  have f_x_claimCount : hl1.2.1 ax 11 = c0 := he_c0.trans f_m_claims
  obtain ⟨mw, f_mw, g_mw⟩ := hx_rf hT gm tt_10 (k := 19) (u := 57) rfl
  obtain ⟨F_mw, n_mw⟩ : ∃ g : Nat → Int32, hl1.2.1 mw = g := ⟨_, rfl⟩
  obtain ⟨mr, f_mr, g_mr⟩ := hx_rf hT gm tt_10 (k := 3) (u := 50) rfl
  obtain ⟨F_mr, n_mr⟩ : ∃ g : Nat → Int32, hl1.2.1 mr = g := ⟨_, rfl⟩
  obtain ⟨mp, f_mp, g_mp⟩ := hx_rf hT gm tt_10 (k := 5) (u := 52) rfl
  obtain ⟨F_mp, n_mp⟩ : ∃ g : Nat → Int32, hl1.2.1 mp = g := ⟨_, rfl⟩
  obtain ⟨mn, f_mn, g_mn⟩ := hx_rf hT gm tt_10 (k := 4) (u := 51) rfl
  obtain ⟨F_mn, n_mn⟩ : ∃ g : Nat → Int32, hl1.2.1 mn = g := ⟨_, rfl⟩
  obtain ⟨ml, f_ml, g_ml⟩ := hx_rf hT gm tt_10 (k := 44) (u := 79) rfl
  obtain ⟨F_ml, n_ml⟩ : ∃ g : Nat → Int32, hl1.2.1 ml = g := ⟨_, rfl⟩
  obtain ⟨mh, f_mh, g_mh⟩ := hx_rf hT gm tt_10 (k := 47) (u := 82) rfl
  obtain ⟨F_mh, n_mh⟩ : ∃ g : Nat → Int32, hl1.2.1 mh = g := ⟨_, rfl⟩
  obtain ⟨mt, f_mt, g_mt⟩ := hx_rf hT gm tt_10 (k := 45) (u := 80) rfl
  obtain ⟨F_mt, n_mt⟩ : ∃ g : Nat → Int32, hl1.2.1 mt = g := ⟨_, rfl⟩
  obtain ⟨m_fou, f_m_fou, g_m_fou⟩ := hx_rf hT gm tt_10 (k := 46) (u := 81) rfl
  obtain ⟨F_m_fou, n_m_fou⟩ : ∃ g : Nat → Int32, hl1.2.1 m_fou = g := ⟨_, rfl⟩
  obtain ⟨qo_ln, f_qo_ln, g_qo_ln⟩ := hx_rf hT gx tt_9 (k := 9) (u := 1) rfl
  have f_o_ln : hl1.2.1 qo_ln 0 = ln := (ho_ln qo_ln f_qo_ln).trans f_m_lines
  have f_o_lsd : hl1.2.1 qw 0 = lsd := (ho_lsd qw f_qw).trans f_m_listed
  have nu_qp := hn_qp qp f_qp; rw [f_x_personCount] at nu_qp
  have nu_qc := hn_qc qc f_qc; rw [f_x_claimCount] at nu_qc
  have sb_list := hLQ qw ql qc f_qw f_ql f_qc
  obtain ⟨m_lst, f_m_lst, g_m_lst⟩ := hx_rf hT gm tt_10 (k := 91) (u := 112) rfl
  obtain ⟨F_lst, n_lst⟩ : ∃ g : Nat → Int32, hl1.2.1 m_lst = g := ⟨_, rfl⟩
  obtain ⟨c_lst, cl_lst⟩ : ∃ g : Nat → Int32, hx_col 8 hl1 ql 0 = g := ⟨_, rfl⟩
  have eq_lst := hLE qw ql m_lst f_qw f_ql f_m_lst; rw [cl_lst, n_lst] at eq_lst
  obtain ⟨c_dead, cl_dead⟩ : ∃ g : Nat → Int32, hx_col 40 hl1 qp 7 = g := ⟨_, rfl⟩
  obtain ⟨m_dead, f_m_dead, g_m_dead⟩ := hx_rf hT gm tt_10 (k := 27) (u := 64) rfl
  obtain ⟨F_dead, n_dead⟩ : ∃ g : Nat → Int32, hl1.2.1 m_dead = g := ⟨_, rfl⟩
  have eq_dead := hc_dead qp m_dead f_qp f_m_dead; rw [cl_dead, n_dead] at eq_dead
  have z_dead : np.toInt.toNat < 40 → c_dead np.toInt.toNat = 0 := fun hj => hx_num_z nu_qp cl_dead hj (by omega)
  obtain ⟨c_isj, cl_isj⟩ : ∃ g : Nat → Int32, hx_col 40 hl1 qp 8 = g := ⟨_, rfl⟩
  obtain ⟨m_isj, f_m_isj, g_m_isj⟩ := hx_rf hT gm tt_10 (k := 28) (u := 65) rfl
  obtain ⟨F_isj, n_isj⟩ : ∃ g : Nat → Int32, hl1.2.1 m_isj = g := ⟨_, rfl⟩
  have eq_isj := hc_isj qp m_isj f_qp f_m_isj; rw [cl_isj, n_isj] at eq_isj
  have z_isj : np.toInt.toNat < 40 → c_isj np.toInt.toNat = 0 := fun hj => hx_num_z nu_qp cl_isj hj (by omega)
  obtain ⟨c_fou, cl_fou⟩ : ∃ g : Nat → Int32, hx_col 100 hl1 qc 10 = g := ⟨_, rfl⟩
  have eq_fou := hc_fou qc m_fou f_qc f_m_fou; rw [cl_fou, n_m_fou] at eq_fou
  have z_fou : c0.toInt.toNat < 100 → c_fou c0.toInt.toNat = 0 := fun hj => hx_num_z nu_qc cl_fou hj (by omega)
  obtain ⟨c_tri, cl_tri⟩ : ∃ g : Nat → Int32, hx_col 100 hl1 qc 9 = g := ⟨_, rfl⟩
  have eq_tri := hc_tri qc mt f_qc f_mt; rw [cl_tri, n_mt] at eq_tri
  have z_tri : c0.toInt.toNat < 100 → c_tri c0.toInt.toNat = 0 := fun hj => hx_num_z nu_qc cl_tri hj (by omega)
  have hwd := jw mw f_mw; rw [n_mw] at hwd
  have hWK := jr mr f_mr; rw [n_mr, f_m_acts] at hWK
  have hRP := jp mp mn f_mp f_mn; rw [n_mp, n_mn, f_m_acts] at hRP
  have hPL := jl ml f_ml; rw [n_ml, f_m_claims, f_m_acts] at hPL
  have hHC := jh mh f_mh; rw [n_mh, f_m_heardMany, f_m_claims] at hHC
  have hTR := jt mt f_mt; rw [n_mt] at hTR
  have hHF := jf mh m_fou f_mh f_m_fou; rw [n_mh, n_m_fou, f_m_claims] at hHF
  refine lv_aload_n hx hb dL_law_1129 rfl (lv_at hl 2 rfl) ?_
  refine lv_aload_n hx hb dL_law_1130 rfl (lv_at hl 3 rfl) ?_
  refine lv_iload_n hx hb dL_law_1131 rfl (lv_at hl 0 rfl) ?_
  refine lv_iconst (v := 1) hx hb dL_law_1132 (by decide) ?_
  refine lv_iadd hx hb dL_law_1133 ?_
  have rg_537 := i32_r i
  refine lv_topi (fun x_538 ex_538 => ?_)
  have zx_538 : x_538.toInt = i.toInt + 1 := by rw [ex_538]; exact i32_add rfl (by decide) (by omega) (by omega)
  refine va_sld hx hb hX hbl hbA hW.2.2.2.1 (vp_in_iff.mpr ⟨by omega, by omega⟩) dL_law_1134 ?_
  refine lv_topi (fun x_539 ex_539 => ?_)
  refine lv_aload_n hx hb dL_law_1135 rfl (lv_at hl 3 rfl) ?_
  refine lv_iload_n hx hb dL_law_1136 rfl (lv_at hl 0 rfl) ?_
  refine lv_iconst (v := 2) hx hb dL_law_1137 (by decide) ?_
  refine lv_iadd hx hb dL_law_1138 ?_
  refine lv_topi (fun x_540 ex_540 => ?_)
  have zx_540 : x_540.toInt = i.toInt + 2 := by rw [ex_540]; exact i32_add rfl (by decide) (by omega) (by omega)
  refine va_sld hx hb hX hbl hbA hW.2.2.2.1 (vp_in_iff.mpr ⟨by omega, by omega⟩) dL_law_1139 ?_
  refine lv_topi (fun x_541 ex_541 => ?_)
  have hTo := hT
  refine hx_goi (hx_runVX (As := [.int x_539, .int x_541]) (rest := []) ⟨hx, hb, hml, hown, hts⟩ hW gx tt_9 (T := TX9) (N := 20) rfl (t_X9_plan l dC dI dA L1 hl1 H.size b0 ax x_539 x_541 hT gx qp g_qp f_qp qc g_qc f_qc qa g_qa f_qa pf_qp pf_qc pf_qa) hZ (cwV 2 hts (hx_gV kw_947 kw_944 kw_945 kw_946 kw_94) rfl rfl rfl (by decide +kernel) ⟨Nat.le_of_ble_eq_true rfl, Nat.le_of_ble_eq_true rfl⟩) rfl hl.1 rfl (Nat.le_of_ble_eq_true rfl) dL_law_1140 ⟨(show CC + 0 ≤ 600000 from by omega), (show SS + 0 ≤ 7302250 from by omega)⟩) hW (fun r_544 L_542 h_543 H locs p_545 hW => ?_)
  obtain ⟨hr_546, hT, hs⟩ := p_545
  have hT : hx_T T_tb L_542 h_543 := hT
  have hs : hx_S T_tb [(5, 0), (5, 1), (5, 9), (5, 10), (5, 11), (5, 12), (27, 0), (28, 0), (29, 0), (30, 0), (31, 0), (32, 0), (33, 0)] L1 hl1 L_542 h_543 := hs
  have f_qa := (hs.o gx trivial rfl).2.trans f_qa
  have f_qp := (hs.o gx trivial rfl).2.trans f_qp
  have f_qc := (hs.o gx trivial rfl).2.trans f_qc
  have f_qh := (hs.o gx trivial rfl).2.trans f_qh
  have f_qw := (hs.o gx trivial rfl).2.trans f_qw
  have f_ql := (hs.o g_qw trivial rfl).2.trans f_ql
  have f_m_now := (hs.o gm trivial rfl).1.trans f_m_now
  have f_m_persons := (hs.o gm trivial rfl).1.trans f_m_persons
  have f_m_claims := (hs.o gm trivial rfl).1.trans f_m_claims
  have f_m_lines := (hs.o gm trivial rfl).1.trans f_m_lines
  have f_m_listed := (hs.o gm trivial rfl).1.trans f_m_listed
  have f_m_acts := (hs.o gm trivial rfl).1.trans f_m_acts
  have f_m_heardMany := (hs.o gm trivial rfl).1.trans f_m_heardMany
  have f_x_now := (hs.o gx trivial rfl).1.trans f_x_now
  have f_x_personCount := (hs.o gx trivial rfl).1.trans f_x_personCount
  have f_x_claimCount := (hs.o gx trivial rfl).1.trans f_x_claimCount
  have f_mw := (hs.o gm trivial rfl).2.trans f_mw
  have f_mr := (hs.o gm trivial rfl).2.trans f_mr
  have f_mp := (hs.o gm trivial rfl).2.trans f_mp
  have f_mn := (hs.o gm trivial rfl).2.trans f_mn
  have f_ml := (hs.o gm trivial rfl).2.trans f_ml
  have f_mh := (hs.o gm trivial rfl).2.trans f_mh
  have f_mt := (hs.o gm trivial rfl).2.trans f_mt
  have f_m_fou := (hs.o gm trivial rfl).2.trans f_m_fou
  have f_qo_ln := (hs.o gx trivial rfl).2.trans f_qo_ln
  have f_o_ln := (hs.o g_qo_ln trivial rfl).1.trans f_o_ln
  have f_o_lsd := (hs.o g_qw trivial rfl).1.trans f_o_lsd
  have f_m_lst := (hs.o gm trivial rfl).2.trans f_m_lst
  have f_m_dead := (hs.o gm trivial rfl).2.trans f_m_dead
  have f_m_isj := (hs.o gm trivial rfl).2.trans f_m_isj
  have pf_qa : ∀ j : Nat, (j : Int) < (h_543.2.1 ax 6).toInt → h_543.2.2 qa j ≠ none := by
    intro j hj; rw [(hs.o gx trivial rfl).1] at hj; rw [(hs.a g_qa rfl j).2]; exact pf_qa j hj
  have pf_qp : ∀ j : Nat, (j : Int) < (h_543.2.1 ax 8).toInt → h_543.2.2 qp j ≠ none := by
    intro j hj; rw [(hs.o gx trivial rfl).1] at hj; rw [(hs.a g_qp rfl j).2]; exact pf_qp j hj
  have pf_qc : ∀ j : Nat, (j : Int) < (h_543.2.1 ax 11).toInt → h_543.2.2 qc j ≠ none := by
    intro j hj; rw [(hs.o gx trivial rfl).1] at hj; rw [(hs.a g_qc rfl j).2]; exact pf_qc j hj
  have pf_qh : ∀ j : Nat, (j : Int) < (h_543.2.1 ax 13).toInt → h_543.2.2 qh j ≠ none := by
    intro j hj; rw [(hs.o gx trivial rfl).1] at hj; rw [(hs.a g_qh rfl j).2]; exact pf_qh j hj
  have pf_ql : ∀ j : Nat, (j : Int) < (h_543.2.1 qw 0).toInt → h_543.2.2 ql j ≠ none := by
    intro j hj; rw [(hs.o g_qw trivial rfl).1] at hj; rw [(hs.a g_ql rfl j).2]; exact pf_ql j hj
  have cl_lst : hx_col 8 h_543 ql 0 = c_lst := (hx_col_S hs hTo g_ql tt_40 tt_2 rfl rfl).trans cl_lst
  have cl_dead : hx_col 40 h_543 qp 7 = c_dead := (hx_col_S hs hTo g_qp tt_44 tt_4 rfl rfl).trans cl_dead
  have cl_isj : hx_col 40 h_543 qp 8 = c_isj := (hx_col_S hs hTo g_qp tt_44 tt_4 rfl rfl).trans cl_isj
  have cl_fou : hx_col 100 h_543 qc 10 = c_fou := (hx_col_S hs hTo g_qc tt_45 tt_2 rfl rfl).trans cl_fou
  have cl_tri : hx_col 100 h_543 qc 9 = c_tri := (hx_col_S hs hTo g_qc tt_45 tt_2 rfl rfl).trans cl_tri
  have nu_qp : hx_num 40 h_543 qp 0 (np.toInt) := hx_num_S hs hTo g_qp tt_44 tt_4 rfl rfl nu_qp
  have nu_qc : hx_num 100 h_543 qc 0 (c0.toInt) := hx_num_S hs hTo g_qc tt_45 tt_2 rfl rfl nu_qc
  have sb_list : hx_LQ 8 100 h_543 ql qc := hx_LQ_S hs g_ql g_qc rfl rfl sb_list
  have n_mw : h_543.2.1 mw = F_mw := (funext fun j => (hs.a g_mw rfl j).1).trans n_mw
  have n_mr : h_543.2.1 mr = F_mr := (funext fun j => (hs.a g_mr rfl j).1).trans n_mr
  have n_mp : h_543.2.1 mp = F_mp := (funext fun j => (hs.a g_mp rfl j).1).trans n_mp
  have n_mn : h_543.2.1 mn = F_mn := (funext fun j => (hs.a g_mn rfl j).1).trans n_mn
  have n_ml : h_543.2.1 ml = F_ml := (funext fun j => (hs.a g_ml rfl j).1).trans n_ml
  have n_mh : h_543.2.1 mh = F_mh := (funext fun j => (hs.a g_mh rfl j).1).trans n_mh
  have n_mt : h_543.2.1 mt = F_mt := (funext fun j => (hs.a g_mt rfl j).1).trans n_mt
  have n_m_fou : h_543.2.1 m_fou = F_m_fou := (funext fun j => (hs.a g_m_fou rfl j).1).trans n_m_fou
  have n_lst : h_543.2.1 m_lst = F_lst := (funext fun j => (hs.a g_m_lst rfl j).1).trans n_lst
  have n_dead : h_543.2.1 m_dead = F_dead := (funext fun j => (hs.a g_m_dead rfl j).1).trans n_dead
  have n_isj : h_543.2.1 m_isj = F_isj := (funext fun j => (hs.a g_m_isj rfl j).1).trans n_isj
  have gx := gx.S hs
  have gm := gm.S hs
  have g_qa := g_qa.S hs
  have g_qp := g_qp.S hs
  have g_qc := g_qc.S hs
  have g_qh := g_qh.S hs
  have g_qw := g_qw.S hs
  have g_ql := g_ql.S hs
  have g_mw := g_mw.S hs
  have g_mr := g_mr.S hs
  have g_mp := g_mp.S hs
  have g_mn := g_mn.S hs
  have g_ml := g_ml.S hs
  have g_mh := g_mh.S hs
  have g_mt := g_mt.S hs
  have g_m_fou := g_m_fou.S hs
  have g_qo_ln := g_qo_ln.S hs
  have g_m_lst := g_m_lst.S hs
  have g_m_dead := g_m_dead.S hs
  have g_m_isj := g_m_isj.S hs
  refine lv_pop hx hb dL_law_1143 rfl ?_
  refine lv_aload_n hx hb dL_law_1144 rfl (lv_at hl 1 rfl) ?_
  refine lv_aload_n hx hb dL_law_1145 rfl (lv_at hl 3 rfl) ?_
  refine lv_iload_n hx hb dL_law_1146 rfl (lv_at hl 0 rfl) ?_
  refine lv_iconst (v := 1) hx hb dL_law_1147 (by decide) ?_
  refine lv_iadd hx hb dL_law_1148 ?_
  refine lv_topi (fun x_547 ex_547 => ?_)
  have zx_547 : x_547.toInt = i.toInt + 1 := by rw [ex_547]; exact i32_add rfl (by decide) (by omega) (by omega)
  obtain rfl : x_538 = x_547 := ex_538.trans ex_547.symm
  refine va_sld hx hb hX hbl hbA hW.2.2.2.1 (vp_in_iff.mpr ⟨by omega, by omega⟩) dL_law_1149 ?_
  refine lv_topi (fun x_548 ex_548 => ?_)
  obtain rfl : x_539 = x_548 := ex_539.trans ex_548.symm
  refine lv_aload_n hx hb dL_law_1150 rfl (lv_at hl 3 rfl) ?_
  refine lv_iload_n hx hb dL_law_1151 rfl (lv_at hl 0 rfl) ?_
  refine lv_iconst (v := 2) hx hb dL_law_1152 (by decide) ?_
  refine lv_iadd hx hb dL_law_1153 ?_
  refine lv_topi (fun x_549 ex_549 => ?_)
  have zx_549 : x_549.toInt = i.toInt + 2 := by rw [ex_549]; exact i32_add rfl (by decide) (by omega) (by omega)
  obtain rfl : x_540 = x_549 := ex_540.trans ex_549.symm
  refine va_sld hx hb hX hbl hbA hW.2.2.2.1 (vp_in_iff.mpr ⟨by omega, by omega⟩) dL_law_1154 ?_
  refine lv_topi (fun x_550 ex_550 => ?_)
  obtain rfl : x_541 = x_550 := ex_541.trans ex_550.symm
  have hTo := hT
  obtain ⟨q_551, fq_551, gq_551⟩ := hx_rf hT gm tt_10 (k := 78) (u := 104) rfl
  obtain ⟨q_552, fq_552, gq_552⟩ := hx_rf hT gm tt_10 (k := 79) (u := 105) rfl
  refine hx_goi (hx_runV (As := [.int x_539, .int x_541]) (rest := []) ⟨hx, hb, hml, hown, hts⟩ hW gm tt_10 (T := TX10) (N := 98) rfl (t_X10_plan l dC dI dA L_542 h_543 H.size am x_539 x_541 hT gm mr g_mr f_mr ml g_ml f_ml q_551 gq_551 fq_551 q_552 gq_552 fq_552 F_mr n_mr F_ml n_ml a0 f_m_acts c0 f_m_claims hWK hPL) (cwV 2 hts (hx_gV kw_1677 kw_1674 kw_1675 kw_1676 kw_103) rfl rfl rfl (by decide +kernel) ⟨Nat.le_of_ble_eq_true rfl, Nat.le_of_ble_eq_true rfl⟩) rfl hl.1 rfl (Nat.le_of_ble_eq_true rfl) dL_law_1155 ⟨(show CC + 0 + 0 ≤ 600000 from by omega), (show SS + 0 + 0 ≤ 7302250 from by omega)⟩) hW (fun r_555 L_553 h_554 H locs p_556 hW => ?_)
  obtain ⟨hr_557, hT, hs⟩ := p_556
  have hT : hx_T T_tb L_553 h_554 := hT
  have hs : hx_S T_tb [(10, 67), (10, 68), (10, 69), (10, 70), (10, 71), (10, 72), (10, 75), (100, 0), (101, 0), (102, 0), (103, 0), (104, 0), (105, 0), (106, 0), (107, 0)] L_542 h_543 L_553 h_554 := hs
  have f_qa := (hs.o gx trivial rfl).2.trans f_qa
  have f_qp := (hs.o gx trivial rfl).2.trans f_qp
  have f_qc := (hs.o gx trivial rfl).2.trans f_qc
  have f_qh := (hs.o gx trivial rfl).2.trans f_qh
  have f_qw := (hs.o gx trivial rfl).2.trans f_qw
  have f_ql := (hs.o g_qw trivial rfl).2.trans f_ql
  have f_m_now := (hs.o gm trivial rfl).1.trans f_m_now
  have f_m_persons := (hs.o gm trivial rfl).1.trans f_m_persons
  have f_m_claims := (hs.o gm trivial rfl).1.trans f_m_claims
  have f_m_lines := (hs.o gm trivial rfl).1.trans f_m_lines
  have f_m_listed := (hs.o gm trivial rfl).1.trans f_m_listed
  have f_m_acts := (hs.o gm trivial rfl).1.trans f_m_acts
  have f_m_heardMany := (hs.o gm trivial rfl).1.trans f_m_heardMany
  have f_x_now := (hs.o gx trivial rfl).1.trans f_x_now
  have f_x_personCount := (hs.o gx trivial rfl).1.trans f_x_personCount
  have f_x_claimCount := (hs.o gx trivial rfl).1.trans f_x_claimCount
  have f_mw := (hs.o gm trivial rfl).2.trans f_mw
  have f_mr := (hs.o gm trivial rfl).2.trans f_mr
  have f_mp := (hs.o gm trivial rfl).2.trans f_mp
  have f_mn := (hs.o gm trivial rfl).2.trans f_mn
  have f_ml := (hs.o gm trivial rfl).2.trans f_ml
  have f_mh := (hs.o gm trivial rfl).2.trans f_mh
  have f_mt := (hs.o gm trivial rfl).2.trans f_mt
  have f_m_fou := (hs.o gm trivial rfl).2.trans f_m_fou
  have f_qo_ln := (hs.o gx trivial rfl).2.trans f_qo_ln
  have f_o_ln := (hs.o g_qo_ln trivial rfl).1.trans f_o_ln
  have f_o_lsd := (hs.o g_qw trivial rfl).1.trans f_o_lsd
  have f_m_lst := (hs.o gm trivial rfl).2.trans f_m_lst
  have f_m_dead := (hs.o gm trivial rfl).2.trans f_m_dead
  have f_m_isj := (hs.o gm trivial rfl).2.trans f_m_isj
  have fq_551 := (hs.o gm trivial rfl).2.trans fq_551
  have fq_552 := (hs.o gm trivial rfl).2.trans fq_552
  have pf_qa : ∀ j : Nat, (j : Int) < (h_554.2.1 ax 6).toInt → h_554.2.2 qa j ≠ none := by
    intro j hj; rw [(hs.o gx trivial rfl).1] at hj; rw [(hs.a g_qa rfl j).2]; exact pf_qa j hj
  have pf_qp : ∀ j : Nat, (j : Int) < (h_554.2.1 ax 8).toInt → h_554.2.2 qp j ≠ none := by
    intro j hj; rw [(hs.o gx trivial rfl).1] at hj; rw [(hs.a g_qp rfl j).2]; exact pf_qp j hj
  have pf_qc : ∀ j : Nat, (j : Int) < (h_554.2.1 ax 11).toInt → h_554.2.2 qc j ≠ none := by
    intro j hj; rw [(hs.o gx trivial rfl).1] at hj; rw [(hs.a g_qc rfl j).2]; exact pf_qc j hj
  have pf_qh : ∀ j : Nat, (j : Int) < (h_554.2.1 ax 13).toInt → h_554.2.2 qh j ≠ none := by
    intro j hj; rw [(hs.o gx trivial rfl).1] at hj; rw [(hs.a g_qh rfl j).2]; exact pf_qh j hj
  have pf_ql : ∀ j : Nat, (j : Int) < (h_554.2.1 qw 0).toInt → h_554.2.2 ql j ≠ none := by
    intro j hj; rw [(hs.o g_qw trivial rfl).1] at hj; rw [(hs.a g_ql rfl j).2]; exact pf_ql j hj
  have cl_lst : hx_col 8 h_554 ql 0 = c_lst := (hx_col_S hs hTo g_ql tt_40 tt_2 rfl rfl).trans cl_lst
  have cl_dead : hx_col 40 h_554 qp 7 = c_dead := (hx_col_S hs hTo g_qp tt_44 tt_4 rfl rfl).trans cl_dead
  have cl_isj : hx_col 40 h_554 qp 8 = c_isj := (hx_col_S hs hTo g_qp tt_44 tt_4 rfl rfl).trans cl_isj
  have cl_fou : hx_col 100 h_554 qc 10 = c_fou := (hx_col_S hs hTo g_qc tt_45 tt_2 rfl rfl).trans cl_fou
  have cl_tri : hx_col 100 h_554 qc 9 = c_tri := (hx_col_S hs hTo g_qc tt_45 tt_2 rfl rfl).trans cl_tri
  have nu_qp : hx_num 40 h_554 qp 0 (np.toInt) := hx_num_S hs hTo g_qp tt_44 tt_4 rfl rfl nu_qp
  have nu_qc : hx_num 100 h_554 qc 0 (c0.toInt) := hx_num_S hs hTo g_qc tt_45 tt_2 rfl rfl nu_qc
  have sb_list : hx_LQ 8 100 h_554 ql qc := hx_LQ_S hs g_ql g_qc rfl rfl sb_list
  have n_mw : h_554.2.1 mw = F_mw := (funext fun j => (hs.a g_mw rfl j).1).trans n_mw
  have n_mr : h_554.2.1 mr = F_mr := (funext fun j => (hs.a g_mr rfl j).1).trans n_mr
  have n_mp : h_554.2.1 mp = F_mp := (funext fun j => (hs.a g_mp rfl j).1).trans n_mp
  have n_mn : h_554.2.1 mn = F_mn := (funext fun j => (hs.a g_mn rfl j).1).trans n_mn
  have n_ml : h_554.2.1 ml = F_ml := (funext fun j => (hs.a g_ml rfl j).1).trans n_ml
  have n_mh : h_554.2.1 mh = F_mh := (funext fun j => (hs.a g_mh rfl j).1).trans n_mh
  have n_mt : h_554.2.1 mt = F_mt := (funext fun j => (hs.a g_mt rfl j).1).trans n_mt
  have n_m_fou : h_554.2.1 m_fou = F_m_fou := (funext fun j => (hs.a g_m_fou rfl j).1).trans n_m_fou
  have n_lst : h_554.2.1 m_lst = F_lst := (funext fun j => (hs.a g_m_lst rfl j).1).trans n_lst
  have n_dead : h_554.2.1 m_dead = F_dead := (funext fun j => (hs.a g_m_dead rfl j).1).trans n_dead
  have n_isj : h_554.2.1 m_isj = F_isj := (funext fun j => (hs.a g_m_isj rfl j).1).trans n_isj
  have gx := gx.S hs
  have gm := gm.S hs
  have g_qa := g_qa.S hs
  have g_qp := g_qp.S hs
  have g_qc := g_qc.S hs
  have g_qh := g_qh.S hs
  have g_qw := g_qw.S hs
  have g_ql := g_ql.S hs
  have g_mw := g_mw.S hs
  have g_mr := g_mr.S hs
  have g_mp := g_mp.S hs
  have g_mn := g_mn.S hs
  have g_ml := g_ml.S hs
  have g_mh := g_mh.S hs
  have g_mt := g_mt.S hs
  have g_m_fou := g_m_fou.S hs
  have g_qo_ln := g_qo_ln.S hs
  have g_m_lst := g_m_lst.S hs
  have g_m_dead := g_m_dead.S hs
  have g_m_isj := g_m_isj.S hs
  have gq_551 := gq_551.S hs
  have gq_552 := gq_552.S hs
  refine lv_pop hx hb dL_law_1158 rfl ?_
  refine lv_goto (tgt := 1379) hx hb dL_law_1159 (by decide) ?_
  refine W.widen (k := CC + 3) (n := SS + 179) (by omega) (by omega) ?_
  exact kk L_553 h_554 H locs ls hW ⟨hT, gx, gm, ⟨f_x_now.trans f_m_now.symm, f_x_personCount.trans f_m_persons.symm, f_x_claimCount.trans f_m_claims.symm, hx_ob f_qo_ln (f_o_ln.trans f_m_lines.symm), hx_ob f_qw (f_o_lsd.trans f_m_listed.symm), hx_ob f_qp (by rw [f_x_personCount]; exact nu_qp), hx_ob f_qc (by rw [f_x_claimCount]; exact nu_qc), (fun w q c hw hq hc => by obtain rfl : qw = w := Option.some.inj (f_qw.symm.trans hw); obtain rfl : ql = q := Option.some.inj (f_ql.symm.trans hq); obtain rfl : qc = c := Option.some.inj (f_qc.symm.trans hc); exact sb_list), (fun w q r hw hq hr => by obtain rfl : qw = w := Option.some.inj (f_qw.symm.trans hw); obtain rfl : ql = q := Option.some.inj (f_ql.symm.trans hq); obtain rfl : m_lst = r := Option.some.inj (f_m_lst.symm.trans hr); rw [cl_lst, n_lst]; exact eq_lst), hx_ob2 f_qp f_m_dead (by rw [cl_dead, n_dead]; exact eq_dead), hx_ob2 f_qp f_m_isj (by rw [cl_isj, n_isj]; exact eq_isj), hx_ob2 f_qc f_m_fou (by rw [cl_fou, n_m_fou]; exact eq_fou), hx_ob2 f_qc f_mt (by rw [cl_tri, n_mt]; exact eq_tri), trivial⟩, ⟨hx_ob f_qa pf_qa, hx_ob f_qp pf_qp, hx_ob f_qc pf_qc, hx_ob f_qh pf_qh, (fun w q hw hq => by obtain rfl : qw = w := Option.some.inj (f_qw.symm.trans hw); obtain rfl : ql = q := Option.some.inj (f_ql.symm.trans hq); exact pf_ql)⟩, ⟨hx_ob f_mw (by rw [n_mw]; exact hwd), hx_ob f_mr (by rw [n_mr, f_m_acts]; exact hWK), hx_ob2 f_mp f_mn (by rw [n_mp, n_mn, f_m_acts]; exact hRP), hx_ob f_ml (by rw [n_ml, f_m_claims, f_m_acts]; exact hPL), hx_ob f_mh (by rw [n_mh, f_m_heardMany, f_m_claims]; exact hHC), hx_ob f_mt (by rw [n_mt]; exact (hx_TR_le hTR (by omega))), hx_ob2 f_mh f_m_fou (by rw [n_mh, n_m_fou, f_m_claims]; exact hHF)⟩⟩ hl

set_option maxHeartbeats 4000000 in
set_option maxRecDepth 100000 in
theorem law_case_22 {p : Program} {e : Env} {s : State} {m : MethodId} {below : List Frame} {meth : Method} {c : Code} (l : Launch) {b LN : Nat} {xs : Nat → Int32} (hx : p.tables.exec = Jvm.exec) (hb : c.code = code) (hr : meth.sig.returnType = ret) (hlocks : meth.locks = false) (hml : c.maxLocals = 4) (hown : s.vm.findClass "SmallCourtLaw" = some m.cls) (hts : ∀ w ∈ hx_all, w.before #[Value.ref b] s = true) (hX : va_X b LN xs s s.heap) (hbl : b < s.heap.size) (hbA : ¬ s.heap.size ≤ b) (hLN : LN ≤ 3584) (dC : Nat → ClassId) (dI : Nat → Nat → Nat) (dA : Nat → ClassId) (b0 : hx_z) (ax am : Nat) (T1 : Int) (hT0 : 0 ≤ T1) (hT1 : T1 ≤ 511) (i : Int32) (hi0 : 0 ≤ i.toInt) (hiL : i.toInt + 7 ≤ LN) (CC SS : Nat) (hCC : CC + 3 ≤ 600000) (hSS : SS + 179 ≤ 7302250) (L1 : List Nat) (hl1 : hx_h) (H : Heap) (locs : List Loc) (ls : Array Slot) (hW : hx_W T_tb (P_ty dA) (dC, dI) vwCl (fun q : Nat => s.heap.size ≤ q) s.heap L1 hl1 s H locs) (hZ : hx_Xt (fun q : Nat => s.heap.size ≤ q) b0 s) (hI : hx_IV T1 ax am L1 hl1) (hl : lv_has ls 4 [(3, .int i), (2, .ref am), (1, .ref ax), (0, .ref b)]) (kk : ∀ (L2 : List Nat) (h2 : hx_h) (H2 : Heap) (locs2 : List Loc) (ls2 : Array Slot), hx_W T_tb (P_ty dA) (dC, dI) vwCl (fun q : Nat => s.heap.size ≤ q) s.heap L2 h2 s H2 locs2 → hx_IV (T1 + 1) ax am L2 h2 → lv_has ls2 4 [(3, .int i), (2, .ref am), (1, .ref ax), (0, .ref b)] → W p l e room_1 s m #[Value.ref b] below meth c H2 locs2 (CC + 3) (SS + 179) (lw_Z below #[Value.ref b] s) (F0 m 1379 ls2 [])) : W p l e room_1 s m #[Value.ref b] below meth c H locs CC SS (lw_Z below #[Value.ref b] s) (F0 m 1162 ls []) := by
  obtain ⟨hT, gx, gm, ⟨he_nw, he_np, he_c0, ho_ln, ho_lsd, hn_qp, hn_qc, hLQ, hLE, hc_dead, hc_isj, hc_fou, hc_tri, -⟩, ⟨ia, ip, ic, ih, il⟩, ⟨jw, jr, jp, jl, jh, jt, jf⟩⟩ := hI
  obtain ⟨qa, f_qa, g_qa⟩ := hx_rf hT gx tt_9 (k := 5) (u := 43) rfl
  have pf_qa := ia qa f_qa
  obtain ⟨qp, f_qp, g_qp⟩ := hx_rf hT gx tt_9 (k := 7) (u := 44) rfl
  have pf_qp := ip qp f_qp
  obtain ⟨qc, f_qc, g_qc⟩ := hx_rf hT gx tt_9 (k := 10) (u := 45) rfl
  have pf_qc := ic qc f_qc
  obtain ⟨qh, f_qh, g_qh⟩ := hx_rf hT gx tt_9 (k := 12) (u := 46) rfl
  have pf_qh := ih qh f_qh
  obtain ⟨qw, f_qw, g_qw⟩ := hx_rf hT gx tt_9 (k := 19) (u := 8) rfl
  obtain ⟨ql, f_ql, g_ql⟩ := hx_rf hT g_qw tt_8 (k := 3) (u := 40) rfl
  have pf_ql := il qw ql f_qw f_ql
  obtain ⟨nw, f_m_now⟩ : ∃ y : Int32, hl1.2.1 am 0 = y := ⟨_, rfl⟩
  have b_nw := hT.gi gm tt_10 (k := 0) rfl
  rw [f_m_now] at b_nw
  have b_nw : 0 ≤ nw.toInt ∧ nw.toInt ≤ 7999 := b_nw
  obtain ⟨np, f_m_persons⟩ : ∃ y : Int32, hl1.2.1 am 20 = y := ⟨_, rfl⟩
  have b_np := hT.gi gm tt_10 (k := 20) rfl
  rw [f_m_persons] at b_np
  have b_np : 0 ≤ np.toInt ∧ np.toInt ≤ 40 := b_np
  obtain ⟨c0, f_m_claims⟩ : ∃ y : Int32, hl1.2.1 am 36 = y := ⟨_, rfl⟩
  have b_c0 := hT.gi gm tt_10 (k := 36) rfl
  rw [f_m_claims] at b_c0
  have b_c0 : 0 ≤ c0.toInt ∧ c0.toInt ≤ 100 := b_c0
  obtain ⟨ln, f_m_lines⟩ : ∃ y : Int32, hl1.2.1 am 29 = y := ⟨_, rfl⟩
  have b_ln := hT.gi gm tt_10 (k := 29) rfl
  rw [f_m_lines] at b_ln
  have b_ln : 0 ≤ ln.toInt ∧ ln.toInt ≤ 400 := b_ln
  obtain ⟨lsd, f_m_listed⟩ : ∃ y : Int32, hl1.2.1 am 90 = y := ⟨_, rfl⟩
  have b_lsd := hT.gi gm tt_10 (k := 90) rfl
  rw [f_m_listed] at b_lsd
  have b_lsd : 0 ≤ lsd.toInt ∧ lsd.toInt ≤ 8 := b_lsd
  obtain ⟨a0, f_m_acts⟩ : ∃ y : Int32, hl1.2.1 am 1 = y := ⟨_, rfl⟩
  have b_a0 := hT.gi gm tt_10 (k := 1) rfl
  rw [f_m_acts] at b_a0
  have b_a0 : 0 ≤ a0.toInt ∧ a0.toInt ≤ 8 := b_a0
  obtain ⟨m0, f_m_heardMany⟩ : ∃ y : Int32, hl1.2.1 am 57 = y := ⟨_, rfl⟩
  have b_m0 := hT.gi gm tt_10 (k := 57) rfl
  rw [f_m_heardMany] at b_m0
  have b_m0 : 0 ≤ m0.toInt ∧ m0.toInt ≤ 100 := b_m0
  have f_x_now : hl1.2.1 ax 2 = nw := he_nw.trans f_m_now
  have f_x_personCount : hl1.2.1 ax 8 = np := he_np.trans f_m_persons
  have f_x_claimCount : hl1.2.1 ax 11 = c0 := he_c0.trans f_m_claims
  obtain ⟨mw, f_mw, g_mw⟩ := hx_rf hT gm tt_10 (k := 19) (u := 57) rfl
  obtain ⟨F_mw, n_mw⟩ : ∃ g : Nat → Int32, hl1.2.1 mw = g := ⟨_, rfl⟩
  obtain ⟨mr, f_mr, g_mr⟩ := hx_rf hT gm tt_10 (k := 3) (u := 50) rfl
  obtain ⟨F_mr, n_mr⟩ : ∃ g : Nat → Int32, hl1.2.1 mr = g := ⟨_, rfl⟩
  obtain ⟨mp, f_mp, g_mp⟩ := hx_rf hT gm tt_10 (k := 5) (u := 52) rfl
  obtain ⟨F_mp, n_mp⟩ : ∃ g : Nat → Int32, hl1.2.1 mp = g := ⟨_, rfl⟩
  obtain ⟨mn, f_mn, g_mn⟩ := hx_rf hT gm tt_10 (k := 4) (u := 51) rfl
  obtain ⟨F_mn, n_mn⟩ : ∃ g : Nat → Int32, hl1.2.1 mn = g := ⟨_, rfl⟩
  obtain ⟨ml, f_ml, g_ml⟩ := hx_rf hT gm tt_10 (k := 44) (u := 79) rfl
  obtain ⟨F_ml, n_ml⟩ : ∃ g : Nat → Int32, hl1.2.1 ml = g := ⟨_, rfl⟩
  obtain ⟨mh, f_mh, g_mh⟩ := hx_rf hT gm tt_10 (k := 47) (u := 82) rfl
  obtain ⟨F_mh, n_mh⟩ : ∃ g : Nat → Int32, hl1.2.1 mh = g := ⟨_, rfl⟩
  obtain ⟨mt, f_mt, g_mt⟩ := hx_rf hT gm tt_10 (k := 45) (u := 80) rfl
  obtain ⟨F_mt, n_mt⟩ : ∃ g : Nat → Int32, hl1.2.1 mt = g := ⟨_, rfl⟩
  obtain ⟨m_fou, f_m_fou, g_m_fou⟩ := hx_rf hT gm tt_10 (k := 46) (u := 81) rfl
  obtain ⟨F_m_fou, n_m_fou⟩ : ∃ g : Nat → Int32, hl1.2.1 m_fou = g := ⟨_, rfl⟩
  obtain ⟨qo_ln, f_qo_ln, g_qo_ln⟩ := hx_rf hT gx tt_9 (k := 9) (u := 1) rfl
  have f_o_ln : hl1.2.1 qo_ln 0 = ln := (ho_ln qo_ln f_qo_ln).trans f_m_lines
  have f_o_lsd : hl1.2.1 qw 0 = lsd := (ho_lsd qw f_qw).trans f_m_listed
  have nu_qp := hn_qp qp f_qp; rw [f_x_personCount] at nu_qp
  have nu_qc := hn_qc qc f_qc; rw [f_x_claimCount] at nu_qc
  have sb_list := hLQ qw ql qc f_qw f_ql f_qc
  obtain ⟨m_lst, f_m_lst, g_m_lst⟩ := hx_rf hT gm tt_10 (k := 91) (u := 112) rfl
  obtain ⟨F_lst, n_lst⟩ : ∃ g : Nat → Int32, hl1.2.1 m_lst = g := ⟨_, rfl⟩
  obtain ⟨c_lst, cl_lst⟩ : ∃ g : Nat → Int32, hx_col 8 hl1 ql 0 = g := ⟨_, rfl⟩
  have eq_lst := hLE qw ql m_lst f_qw f_ql f_m_lst; rw [cl_lst, n_lst] at eq_lst
  obtain ⟨c_dead, cl_dead⟩ : ∃ g : Nat → Int32, hx_col 40 hl1 qp 7 = g := ⟨_, rfl⟩
  obtain ⟨m_dead, f_m_dead, g_m_dead⟩ := hx_rf hT gm tt_10 (k := 27) (u := 64) rfl
  obtain ⟨F_dead, n_dead⟩ : ∃ g : Nat → Int32, hl1.2.1 m_dead = g := ⟨_, rfl⟩
  have eq_dead := hc_dead qp m_dead f_qp f_m_dead; rw [cl_dead, n_dead] at eq_dead
  have z_dead : np.toInt.toNat < 40 → c_dead np.toInt.toNat = 0 := fun hj => hx_num_z nu_qp cl_dead hj (by omega)
  obtain ⟨c_isj, cl_isj⟩ : ∃ g : Nat → Int32, hx_col 40 hl1 qp 8 = g := ⟨_, rfl⟩
  obtain ⟨m_isj, f_m_isj, g_m_isj⟩ := hx_rf hT gm tt_10 (k := 28) (u := 65) rfl
  obtain ⟨F_isj, n_isj⟩ : ∃ g : Nat → Int32, hl1.2.1 m_isj = g := ⟨_, rfl⟩
  have eq_isj := hc_isj qp m_isj f_qp f_m_isj; rw [cl_isj, n_isj] at eq_isj
  have z_isj : np.toInt.toNat < 40 → c_isj np.toInt.toNat = 0 := fun hj => hx_num_z nu_qp cl_isj hj (by omega)
  obtain ⟨c_fou, cl_fou⟩ : ∃ g : Nat → Int32, hx_col 100 hl1 qc 10 = g := ⟨_, rfl⟩
  have eq_fou := hc_fou qc m_fou f_qc f_m_fou; rw [cl_fou, n_m_fou] at eq_fou
  have z_fou : c0.toInt.toNat < 100 → c_fou c0.toInt.toNat = 0 := fun hj => hx_num_z nu_qc cl_fou hj (by omega)
  obtain ⟨c_tri, cl_tri⟩ : ∃ g : Nat → Int32, hx_col 100 hl1 qc 9 = g := ⟨_, rfl⟩
  have eq_tri := hc_tri qc mt f_qc f_mt; rw [cl_tri, n_mt] at eq_tri
  have z_tri : c0.toInt.toNat < 100 → c_tri c0.toInt.toNat = 0 := fun hj => hx_num_z nu_qc cl_tri hj (by omega)
  have hwd := jw mw f_mw; rw [n_mw] at hwd
  have hWK := jr mr f_mr; rw [n_mr, f_m_acts] at hWK
  have hRP := jp mp mn f_mp f_mn; rw [n_mp, n_mn, f_m_acts] at hRP
  have hPL := jl ml f_ml; rw [n_ml, f_m_claims, f_m_acts] at hPL
  have hHC := jh mh f_mh; rw [n_mh, f_m_heardMany, f_m_claims] at hHC
  have hTR := jt mt f_mt; rw [n_mt] at hTR
  have hHF := jf mh m_fou f_mh f_m_fou; rw [n_mh, n_m_fou, f_m_claims] at hHF
  refine lv_aload_n hx hb dL_law_1162 rfl (lv_at hl 2 rfl) ?_
  refine lv_aload_n hx hb dL_law_1163 rfl (lv_at hl 3 rfl) ?_
  refine lv_iload_n hx hb dL_law_1164 rfl (lv_at hl 0 rfl) ?_
  refine lv_iconst (v := 1) hx hb dL_law_1165 (by decide) ?_
  refine lv_iadd hx hb dL_law_1166 ?_
  have rg_558 := i32_r i
  refine lv_topi (fun x_559 ex_559 => ?_)
  have zx_559 : x_559.toInt = i.toInt + 1 := by rw [ex_559]; exact i32_add rfl (by decide) (by omega) (by omega)
  refine va_sld hx hb hX hbl hbA hW.2.2.2.1 (vp_in_iff.mpr ⟨by omega, by omega⟩) dL_law_1167 ?_
  refine lv_topi (fun x_560 ex_560 => ?_)
  refine lv_aload_n hx hb dL_law_1168 rfl (lv_at hl 3 rfl) ?_
  refine lv_iload_n hx hb dL_law_1169 rfl (lv_at hl 0 rfl) ?_
  refine lv_iconst (v := 2) hx hb dL_law_1170 (by decide) ?_
  refine lv_iadd hx hb dL_law_1171 ?_
  refine lv_topi (fun x_561 ex_561 => ?_)
  have zx_561 : x_561.toInt = i.toInt + 2 := by rw [ex_561]; exact i32_add rfl (by decide) (by omega) (by omega)
  refine va_sld hx hb hX hbl hbA hW.2.2.2.1 (vp_in_iff.mpr ⟨by omega, by omega⟩) dL_law_1172 ?_
  refine lv_topi (fun x_562 ex_562 => ?_)
  have hTo := hT
  refine hx_goi (hx_runV (As := [.int x_560, .int x_562]) (rest := []) ⟨hx, hb, hml, hown, hts⟩ hW gx tt_9 (T := TX9) (N := 20) rfl (t_X9_planned l dC dI dA L1 hl1 H.size ax x_560 x_562 hT gx) (cwV 2 hts (hx_gV kw_980 kw_977 kw_978 kw_979 kw_94) rfl rfl rfl (by decide +kernel) ⟨Nat.le_of_ble_eq_true rfl, Nat.le_of_ble_eq_true rfl⟩) rfl hl.1 rfl (Nat.le_of_ble_eq_true rfl) dL_law_1173 ⟨(show CC + 0 ≤ 600000 from by omega), (show SS + 0 ≤ 7302250 from by omega)⟩) hW (fun r_565 L_563 h_564 H locs p_566 hW => ?_)
  obtain ⟨hr_567, hT, hs⟩ := p_566
  have hT : hx_T T_tb L_563 h_564 := hT
  have hs : hx_S T_tb [] L1 hl1 L_563 h_564 := hs
  have f_qa := (hs.o gx trivial rfl).2.trans f_qa
  have f_qp := (hs.o gx trivial rfl).2.trans f_qp
  have f_qc := (hs.o gx trivial rfl).2.trans f_qc
  have f_qh := (hs.o gx trivial rfl).2.trans f_qh
  have f_qw := (hs.o gx trivial rfl).2.trans f_qw
  have f_ql := (hs.o g_qw trivial rfl).2.trans f_ql
  have f_m_now := (hs.o gm trivial rfl).1.trans f_m_now
  have f_m_persons := (hs.o gm trivial rfl).1.trans f_m_persons
  have f_m_claims := (hs.o gm trivial rfl).1.trans f_m_claims
  have f_m_lines := (hs.o gm trivial rfl).1.trans f_m_lines
  have f_m_listed := (hs.o gm trivial rfl).1.trans f_m_listed
  have f_m_acts := (hs.o gm trivial rfl).1.trans f_m_acts
  have f_m_heardMany := (hs.o gm trivial rfl).1.trans f_m_heardMany
  have f_x_now := (hs.o gx trivial rfl).1.trans f_x_now
  have f_x_personCount := (hs.o gx trivial rfl).1.trans f_x_personCount
  have f_x_claimCount := (hs.o gx trivial rfl).1.trans f_x_claimCount
  have f_mw := (hs.o gm trivial rfl).2.trans f_mw
  have f_mr := (hs.o gm trivial rfl).2.trans f_mr
  have f_mp := (hs.o gm trivial rfl).2.trans f_mp
  have f_mn := (hs.o gm trivial rfl).2.trans f_mn
  have f_ml := (hs.o gm trivial rfl).2.trans f_ml
  have f_mh := (hs.o gm trivial rfl).2.trans f_mh
  have f_mt := (hs.o gm trivial rfl).2.trans f_mt
  have f_m_fou := (hs.o gm trivial rfl).2.trans f_m_fou
  have f_qo_ln := (hs.o gx trivial rfl).2.trans f_qo_ln
  have f_o_ln := (hs.o g_qo_ln trivial rfl).1.trans f_o_ln
  have f_o_lsd := (hs.o g_qw trivial rfl).1.trans f_o_lsd
  have f_m_lst := (hs.o gm trivial rfl).2.trans f_m_lst
  have f_m_dead := (hs.o gm trivial rfl).2.trans f_m_dead
  have f_m_isj := (hs.o gm trivial rfl).2.trans f_m_isj
  have pf_qa : ∀ j : Nat, (j : Int) < (h_564.2.1 ax 6).toInt → h_564.2.2 qa j ≠ none := by
    intro j hj; rw [(hs.o gx trivial rfl).1] at hj; rw [(hs.a g_qa rfl j).2]; exact pf_qa j hj
  have pf_qp : ∀ j : Nat, (j : Int) < (h_564.2.1 ax 8).toInt → h_564.2.2 qp j ≠ none := by
    intro j hj; rw [(hs.o gx trivial rfl).1] at hj; rw [(hs.a g_qp rfl j).2]; exact pf_qp j hj
  have pf_qc : ∀ j : Nat, (j : Int) < (h_564.2.1 ax 11).toInt → h_564.2.2 qc j ≠ none := by
    intro j hj; rw [(hs.o gx trivial rfl).1] at hj; rw [(hs.a g_qc rfl j).2]; exact pf_qc j hj
  have pf_qh : ∀ j : Nat, (j : Int) < (h_564.2.1 ax 13).toInt → h_564.2.2 qh j ≠ none := by
    intro j hj; rw [(hs.o gx trivial rfl).1] at hj; rw [(hs.a g_qh rfl j).2]; exact pf_qh j hj
  have pf_ql : ∀ j : Nat, (j : Int) < (h_564.2.1 qw 0).toInt → h_564.2.2 ql j ≠ none := by
    intro j hj; rw [(hs.o g_qw trivial rfl).1] at hj; rw [(hs.a g_ql rfl j).2]; exact pf_ql j hj
  have cl_lst : hx_col 8 h_564 ql 0 = c_lst := (hx_col_S hs hTo g_ql tt_40 tt_2 rfl rfl).trans cl_lst
  have cl_dead : hx_col 40 h_564 qp 7 = c_dead := (hx_col_S hs hTo g_qp tt_44 tt_4 rfl rfl).trans cl_dead
  have cl_isj : hx_col 40 h_564 qp 8 = c_isj := (hx_col_S hs hTo g_qp tt_44 tt_4 rfl rfl).trans cl_isj
  have cl_fou : hx_col 100 h_564 qc 10 = c_fou := (hx_col_S hs hTo g_qc tt_45 tt_2 rfl rfl).trans cl_fou
  have cl_tri : hx_col 100 h_564 qc 9 = c_tri := (hx_col_S hs hTo g_qc tt_45 tt_2 rfl rfl).trans cl_tri
  have nu_qp : hx_num 40 h_564 qp 0 (np.toInt) := hx_num_S hs hTo g_qp tt_44 tt_4 rfl rfl nu_qp
  have nu_qc : hx_num 100 h_564 qc 0 (c0.toInt) := hx_num_S hs hTo g_qc tt_45 tt_2 rfl rfl nu_qc
  have sb_list : hx_LQ 8 100 h_564 ql qc := hx_LQ_S hs g_ql g_qc rfl rfl sb_list
  have n_mw : h_564.2.1 mw = F_mw := (funext fun j => (hs.a g_mw rfl j).1).trans n_mw
  have n_mr : h_564.2.1 mr = F_mr := (funext fun j => (hs.a g_mr rfl j).1).trans n_mr
  have n_mp : h_564.2.1 mp = F_mp := (funext fun j => (hs.a g_mp rfl j).1).trans n_mp
  have n_mn : h_564.2.1 mn = F_mn := (funext fun j => (hs.a g_mn rfl j).1).trans n_mn
  have n_ml : h_564.2.1 ml = F_ml := (funext fun j => (hs.a g_ml rfl j).1).trans n_ml
  have n_mh : h_564.2.1 mh = F_mh := (funext fun j => (hs.a g_mh rfl j).1).trans n_mh
  have n_mt : h_564.2.1 mt = F_mt := (funext fun j => (hs.a g_mt rfl j).1).trans n_mt
  have n_m_fou : h_564.2.1 m_fou = F_m_fou := (funext fun j => (hs.a g_m_fou rfl j).1).trans n_m_fou
  have n_lst : h_564.2.1 m_lst = F_lst := (funext fun j => (hs.a g_m_lst rfl j).1).trans n_lst
  have n_dead : h_564.2.1 m_dead = F_dead := (funext fun j => (hs.a g_m_dead rfl j).1).trans n_dead
  have n_isj : h_564.2.1 m_isj = F_isj := (funext fun j => (hs.a g_m_isj rfl j).1).trans n_isj
  have gx := gx.S hs
  have gm := gm.S hs
  have g_qa := g_qa.S hs
  have g_qp := g_qp.S hs
  have g_qc := g_qc.S hs
  have g_qh := g_qh.S hs
  have g_qw := g_qw.S hs
  have g_ql := g_ql.S hs
  have g_mw := g_mw.S hs
  have g_mr := g_mr.S hs
  have g_mp := g_mp.S hs
  have g_mn := g_mn.S hs
  have g_ml := g_ml.S hs
  have g_mh := g_mh.S hs
  have g_mt := g_mt.S hs
  have g_m_fou := g_m_fou.S hs
  have g_qo_ln := g_qo_ln.S hs
  have g_m_lst := g_m_lst.S hs
  have g_m_dead := g_m_dead.S hs
  have g_m_isj := g_m_isj.S hs
  refine lv_pop hx hb dL_law_1176 rfl ?_
  refine lv_aload_n hx hb dL_law_1177 rfl (lv_at hl 1 rfl) ?_
  refine lv_aload_n hx hb dL_law_1178 rfl (lv_at hl 3 rfl) ?_
  refine lv_iload_n hx hb dL_law_1179 rfl (lv_at hl 0 rfl) ?_
  refine lv_iconst (v := 1) hx hb dL_law_1180 (by decide) ?_
  refine lv_iadd hx hb dL_law_1181 ?_
  refine lv_topi (fun x_568 ex_568 => ?_)
  have zx_568 : x_568.toInt = i.toInt + 1 := by rw [ex_568]; exact i32_add rfl (by decide) (by omega) (by omega)
  obtain rfl : x_559 = x_568 := ex_559.trans ex_568.symm
  refine va_sld hx hb hX hbl hbA hW.2.2.2.1 (vp_in_iff.mpr ⟨by omega, by omega⟩) dL_law_1182 ?_
  refine lv_topi (fun x_569 ex_569 => ?_)
  obtain rfl : x_560 = x_569 := ex_560.trans ex_569.symm
  refine lv_aload_n hx hb dL_law_1183 rfl (lv_at hl 3 rfl) ?_
  refine lv_iload_n hx hb dL_law_1184 rfl (lv_at hl 0 rfl) ?_
  refine lv_iconst (v := 2) hx hb dL_law_1185 (by decide) ?_
  refine lv_iadd hx hb dL_law_1186 ?_
  refine lv_topi (fun x_570 ex_570 => ?_)
  have zx_570 : x_570.toInt = i.toInt + 2 := by rw [ex_570]; exact i32_add rfl (by decide) (by omega) (by omega)
  obtain rfl : x_561 = x_570 := ex_561.trans ex_570.symm
  refine va_sld hx hb hX hbl hbA hW.2.2.2.1 (vp_in_iff.mpr ⟨by omega, by omega⟩) dL_law_1187 ?_
  refine lv_topi (fun x_571 ex_571 => ?_)
  obtain rfl : x_562 = x_571 := ex_562.trans ex_571.symm
  have hTo := hT
  refine hx_goi (hx_runV (As := [.int x_560, .int x_562]) (rest := []) ⟨hx, hb, hml, hown, hts⟩ hW gm tt_10 (T := TX10) (N := 98) rfl (t_X10_planned l dC dI dA L_563 h_564 H.size am x_560 x_562 hT gm) (cwV 2 hts (hx_gV kw_1686 kw_1683 kw_1684 kw_1685 kw_103) rfl rfl rfl (by decide +kernel) ⟨Nat.le_of_ble_eq_true rfl, Nat.le_of_ble_eq_true rfl⟩) rfl hl.1 rfl (Nat.le_of_ble_eq_true rfl) dL_law_1188 ⟨(show CC + 0 + 0 ≤ 600000 from by omega), (show SS + 0 + 0 ≤ 7302250 from by omega)⟩) hW (fun r_574 L_572 h_573 H locs p_575 hW => ?_)
  obtain ⟨hr_576, hT, hs⟩ := p_575
  have hT : hx_T T_tb L_572 h_573 := hT
  have hs : hx_S T_tb [] L_563 h_564 L_572 h_573 := hs
  have f_qa := (hs.o gx trivial rfl).2.trans f_qa
  have f_qp := (hs.o gx trivial rfl).2.trans f_qp
  have f_qc := (hs.o gx trivial rfl).2.trans f_qc
  have f_qh := (hs.o gx trivial rfl).2.trans f_qh
  have f_qw := (hs.o gx trivial rfl).2.trans f_qw
  have f_ql := (hs.o g_qw trivial rfl).2.trans f_ql
  have f_m_now := (hs.o gm trivial rfl).1.trans f_m_now
  have f_m_persons := (hs.o gm trivial rfl).1.trans f_m_persons
  have f_m_claims := (hs.o gm trivial rfl).1.trans f_m_claims
  have f_m_lines := (hs.o gm trivial rfl).1.trans f_m_lines
  have f_m_listed := (hs.o gm trivial rfl).1.trans f_m_listed
  have f_m_acts := (hs.o gm trivial rfl).1.trans f_m_acts
  have f_m_heardMany := (hs.o gm trivial rfl).1.trans f_m_heardMany
  have f_x_now := (hs.o gx trivial rfl).1.trans f_x_now
  have f_x_personCount := (hs.o gx trivial rfl).1.trans f_x_personCount
  have f_x_claimCount := (hs.o gx trivial rfl).1.trans f_x_claimCount
  have f_mw := (hs.o gm trivial rfl).2.trans f_mw
  have f_mr := (hs.o gm trivial rfl).2.trans f_mr
  have f_mp := (hs.o gm trivial rfl).2.trans f_mp
  have f_mn := (hs.o gm trivial rfl).2.trans f_mn
  have f_ml := (hs.o gm trivial rfl).2.trans f_ml
  have f_mh := (hs.o gm trivial rfl).2.trans f_mh
  have f_mt := (hs.o gm trivial rfl).2.trans f_mt
  have f_m_fou := (hs.o gm trivial rfl).2.trans f_m_fou
  have f_qo_ln := (hs.o gx trivial rfl).2.trans f_qo_ln
  have f_o_ln := (hs.o g_qo_ln trivial rfl).1.trans f_o_ln
  have f_o_lsd := (hs.o g_qw trivial rfl).1.trans f_o_lsd
  have f_m_lst := (hs.o gm trivial rfl).2.trans f_m_lst
  have f_m_dead := (hs.o gm trivial rfl).2.trans f_m_dead
  have f_m_isj := (hs.o gm trivial rfl).2.trans f_m_isj
  have pf_qa : ∀ j : Nat, (j : Int) < (h_573.2.1 ax 6).toInt → h_573.2.2 qa j ≠ none := by
    intro j hj; rw [(hs.o gx trivial rfl).1] at hj; rw [(hs.a g_qa rfl j).2]; exact pf_qa j hj
  have pf_qp : ∀ j : Nat, (j : Int) < (h_573.2.1 ax 8).toInt → h_573.2.2 qp j ≠ none := by
    intro j hj; rw [(hs.o gx trivial rfl).1] at hj; rw [(hs.a g_qp rfl j).2]; exact pf_qp j hj
  have pf_qc : ∀ j : Nat, (j : Int) < (h_573.2.1 ax 11).toInt → h_573.2.2 qc j ≠ none := by
    intro j hj; rw [(hs.o gx trivial rfl).1] at hj; rw [(hs.a g_qc rfl j).2]; exact pf_qc j hj
  have pf_qh : ∀ j : Nat, (j : Int) < (h_573.2.1 ax 13).toInt → h_573.2.2 qh j ≠ none := by
    intro j hj; rw [(hs.o gx trivial rfl).1] at hj; rw [(hs.a g_qh rfl j).2]; exact pf_qh j hj
  have pf_ql : ∀ j : Nat, (j : Int) < (h_573.2.1 qw 0).toInt → h_573.2.2 ql j ≠ none := by
    intro j hj; rw [(hs.o g_qw trivial rfl).1] at hj; rw [(hs.a g_ql rfl j).2]; exact pf_ql j hj
  have cl_lst : hx_col 8 h_573 ql 0 = c_lst := (hx_col_S hs hTo g_ql tt_40 tt_2 rfl rfl).trans cl_lst
  have cl_dead : hx_col 40 h_573 qp 7 = c_dead := (hx_col_S hs hTo g_qp tt_44 tt_4 rfl rfl).trans cl_dead
  have cl_isj : hx_col 40 h_573 qp 8 = c_isj := (hx_col_S hs hTo g_qp tt_44 tt_4 rfl rfl).trans cl_isj
  have cl_fou : hx_col 100 h_573 qc 10 = c_fou := (hx_col_S hs hTo g_qc tt_45 tt_2 rfl rfl).trans cl_fou
  have cl_tri : hx_col 100 h_573 qc 9 = c_tri := (hx_col_S hs hTo g_qc tt_45 tt_2 rfl rfl).trans cl_tri
  have nu_qp : hx_num 40 h_573 qp 0 (np.toInt) := hx_num_S hs hTo g_qp tt_44 tt_4 rfl rfl nu_qp
  have nu_qc : hx_num 100 h_573 qc 0 (c0.toInt) := hx_num_S hs hTo g_qc tt_45 tt_2 rfl rfl nu_qc
  have sb_list : hx_LQ 8 100 h_573 ql qc := hx_LQ_S hs g_ql g_qc rfl rfl sb_list
  have n_mw : h_573.2.1 mw = F_mw := (funext fun j => (hs.a g_mw rfl j).1).trans n_mw
  have n_mr : h_573.2.1 mr = F_mr := (funext fun j => (hs.a g_mr rfl j).1).trans n_mr
  have n_mp : h_573.2.1 mp = F_mp := (funext fun j => (hs.a g_mp rfl j).1).trans n_mp
  have n_mn : h_573.2.1 mn = F_mn := (funext fun j => (hs.a g_mn rfl j).1).trans n_mn
  have n_ml : h_573.2.1 ml = F_ml := (funext fun j => (hs.a g_ml rfl j).1).trans n_ml
  have n_mh : h_573.2.1 mh = F_mh := (funext fun j => (hs.a g_mh rfl j).1).trans n_mh
  have n_mt : h_573.2.1 mt = F_mt := (funext fun j => (hs.a g_mt rfl j).1).trans n_mt
  have n_m_fou : h_573.2.1 m_fou = F_m_fou := (funext fun j => (hs.a g_m_fou rfl j).1).trans n_m_fou
  have n_lst : h_573.2.1 m_lst = F_lst := (funext fun j => (hs.a g_m_lst rfl j).1).trans n_lst
  have n_dead : h_573.2.1 m_dead = F_dead := (funext fun j => (hs.a g_m_dead rfl j).1).trans n_dead
  have n_isj : h_573.2.1 m_isj = F_isj := (funext fun j => (hs.a g_m_isj rfl j).1).trans n_isj
  have gx := gx.S hs
  have gm := gm.S hs
  have g_qa := g_qa.S hs
  have g_qp := g_qp.S hs
  have g_qc := g_qc.S hs
  have g_qh := g_qh.S hs
  have g_qw := g_qw.S hs
  have g_ql := g_ql.S hs
  have g_mw := g_mw.S hs
  have g_mr := g_mr.S hs
  have g_mp := g_mp.S hs
  have g_mn := g_mn.S hs
  have g_ml := g_ml.S hs
  have g_mh := g_mh.S hs
  have g_mt := g_mt.S hs
  have g_m_fou := g_m_fou.S hs
  have g_qo_ln := g_qo_ln.S hs
  have g_m_lst := g_m_lst.S hs
  have g_m_dead := g_m_dead.S hs
  have g_m_isj := g_m_isj.S hs
  refine lv_pop hx hb dL_law_1191 rfl ?_
  refine lv_goto (tgt := 1379) hx hb dL_law_1192 (by decide) ?_
  refine W.widen (k := CC + 3) (n := SS + 179) (by omega) (by omega) ?_
  exact kk L_572 h_573 H locs ls hW ⟨hT, gx, gm, ⟨f_x_now.trans f_m_now.symm, f_x_personCount.trans f_m_persons.symm, f_x_claimCount.trans f_m_claims.symm, hx_ob f_qo_ln (f_o_ln.trans f_m_lines.symm), hx_ob f_qw (f_o_lsd.trans f_m_listed.symm), hx_ob f_qp (by rw [f_x_personCount]; exact nu_qp), hx_ob f_qc (by rw [f_x_claimCount]; exact nu_qc), (fun w q c hw hq hc => by obtain rfl : qw = w := Option.some.inj (f_qw.symm.trans hw); obtain rfl : ql = q := Option.some.inj (f_ql.symm.trans hq); obtain rfl : qc = c := Option.some.inj (f_qc.symm.trans hc); exact sb_list), (fun w q r hw hq hr => by obtain rfl : qw = w := Option.some.inj (f_qw.symm.trans hw); obtain rfl : ql = q := Option.some.inj (f_ql.symm.trans hq); obtain rfl : m_lst = r := Option.some.inj (f_m_lst.symm.trans hr); rw [cl_lst, n_lst]; exact eq_lst), hx_ob2 f_qp f_m_dead (by rw [cl_dead, n_dead]; exact eq_dead), hx_ob2 f_qp f_m_isj (by rw [cl_isj, n_isj]; exact eq_isj), hx_ob2 f_qc f_m_fou (by rw [cl_fou, n_m_fou]; exact eq_fou), hx_ob2 f_qc f_mt (by rw [cl_tri, n_mt]; exact eq_tri), trivial⟩, ⟨hx_ob f_qa pf_qa, hx_ob f_qp pf_qp, hx_ob f_qc pf_qc, hx_ob f_qh pf_qh, (fun w q hw hq => by obtain rfl : qw = w := Option.some.inj (f_qw.symm.trans hw); obtain rfl : ql = q := Option.some.inj (f_ql.symm.trans hq); exact pf_ql)⟩, ⟨hx_ob f_mw (by rw [n_mw]; exact hwd), hx_ob f_mr (by rw [n_mr, f_m_acts]; exact hWK), hx_ob2 f_mp f_mn (by rw [n_mp, n_mn, f_m_acts]; exact hRP), hx_ob f_ml (by rw [n_ml, f_m_claims, f_m_acts]; exact hPL), hx_ob f_mh (by rw [n_mh, f_m_heardMany, f_m_claims]; exact hHC), hx_ob f_mt (by rw [n_mt]; exact (hx_TR_le hTR (by omega))), hx_ob2 f_mh f_m_fou (by rw [n_mh, n_m_fou, f_m_claims]; exact hHF)⟩⟩ hl

set_option maxHeartbeats 4000000 in
set_option maxRecDepth 100000 in
theorem law_case_23 {p : Program} {e : Env} {s : State} {m : MethodId} {below : List Frame} {meth : Method} {c : Code} (l : Launch) {b LN : Nat} {xs : Nat → Int32} (hx : p.tables.exec = Jvm.exec) (hb : c.code = code) (hr : meth.sig.returnType = ret) (hlocks : meth.locks = false) (hml : c.maxLocals = 4) (hown : s.vm.findClass "SmallCourtLaw" = some m.cls) (hts : ∀ w ∈ hx_all, w.before #[Value.ref b] s = true) (hX : va_X b LN xs s s.heap) (hbl : b < s.heap.size) (hbA : ¬ s.heap.size ≤ b) (hLN : LN ≤ 3584) (dC : Nat → ClassId) (dI : Nat → Nat → Nat) (dA : Nat → ClassId) (b0 : hx_z) (ax am : Nat) (T1 : Int) (hT0 : 0 ≤ T1) (hT1 : T1 ≤ 511) (i : Int32) (hi0 : 0 ≤ i.toInt) (hiL : i.toInt + 7 ≤ LN) (CC SS : Nat) (hCC : CC + 3 ≤ 600000) (hSS : SS + 179 ≤ 7302250) (L1 : List Nat) (hl1 : hx_h) (H : Heap) (locs : List Loc) (ls : Array Slot) (hW : hx_W T_tb (P_ty dA) (dC, dI) vwCl (fun q : Nat => s.heap.size ≤ q) s.heap L1 hl1 s H locs) (hZ : hx_Xt (fun q : Nat => s.heap.size ≤ q) b0 s) (hI : hx_IV T1 ax am L1 hl1) (hl : lv_has ls 4 [(3, .int i), (2, .ref am), (1, .ref ax), (0, .ref b)]) (kk : ∀ (L2 : List Nat) (h2 : hx_h) (H2 : Heap) (locs2 : List Loc) (ls2 : Array Slot), hx_W T_tb (P_ty dA) (dC, dI) vwCl (fun q : Nat => s.heap.size ≤ q) s.heap L2 h2 s H2 locs2 → hx_IV (T1 + 1) ax am L2 h2 → lv_has ls2 4 [(3, .int i), (2, .ref am), (1, .ref ax), (0, .ref b)] → W p l e room_1 s m #[Value.ref b] below meth c H2 locs2 (CC + 3) (SS + 179) (lw_Z below #[Value.ref b] s) (F0 m 1379 ls2 [])) : W p l e room_1 s m #[Value.ref b] below meth c H locs CC SS (lw_Z below #[Value.ref b] s) (F0 m 1195 ls []) := by
  obtain ⟨hT, gx, gm, ⟨he_nw, he_np, he_c0, ho_ln, ho_lsd, hn_qp, hn_qc, hLQ, hLE, hc_dead, hc_isj, hc_fou, hc_tri, -⟩, ⟨ia, ip, ic, ih, il⟩, ⟨jw, jr, jp, jl, jh, jt, jf⟩⟩ := hI
  obtain ⟨qa, f_qa, g_qa⟩ := hx_rf hT gx tt_9 (k := 5) (u := 43) rfl
  have pf_qa := ia qa f_qa
  obtain ⟨qp, f_qp, g_qp⟩ := hx_rf hT gx tt_9 (k := 7) (u := 44) rfl
  have pf_qp := ip qp f_qp
  obtain ⟨qc, f_qc, g_qc⟩ := hx_rf hT gx tt_9 (k := 10) (u := 45) rfl
  have pf_qc := ic qc f_qc
  obtain ⟨qh, f_qh, g_qh⟩ := hx_rf hT gx tt_9 (k := 12) (u := 46) rfl
  have pf_qh := ih qh f_qh
  obtain ⟨qw, f_qw, g_qw⟩ := hx_rf hT gx tt_9 (k := 19) (u := 8) rfl
  obtain ⟨ql, f_ql, g_ql⟩ := hx_rf hT g_qw tt_8 (k := 3) (u := 40) rfl
  have pf_ql := il qw ql f_qw f_ql
  obtain ⟨nw, f_m_now⟩ : ∃ y : Int32, hl1.2.1 am 0 = y := ⟨_, rfl⟩
  have b_nw := hT.gi gm tt_10 (k := 0) rfl
  rw [f_m_now] at b_nw
  have b_nw : 0 ≤ nw.toInt ∧ nw.toInt ≤ 7999 := b_nw
  obtain ⟨np, f_m_persons⟩ : ∃ y : Int32, hl1.2.1 am 20 = y := ⟨_, rfl⟩
  have b_np := hT.gi gm tt_10 (k := 20) rfl
  rw [f_m_persons] at b_np
  have b_np : 0 ≤ np.toInt ∧ np.toInt ≤ 40 := b_np
  obtain ⟨c0, f_m_claims⟩ : ∃ y : Int32, hl1.2.1 am 36 = y := ⟨_, rfl⟩
  have b_c0 := hT.gi gm tt_10 (k := 36) rfl
  rw [f_m_claims] at b_c0
  have b_c0 : 0 ≤ c0.toInt ∧ c0.toInt ≤ 100 := b_c0
  obtain ⟨ln, f_m_lines⟩ : ∃ y : Int32, hl1.2.1 am 29 = y := ⟨_, rfl⟩
  have b_ln := hT.gi gm tt_10 (k := 29) rfl
  rw [f_m_lines] at b_ln
  have b_ln : 0 ≤ ln.toInt ∧ ln.toInt ≤ 400 := b_ln
  obtain ⟨lsd, f_m_listed⟩ : ∃ y : Int32, hl1.2.1 am 90 = y := ⟨_, rfl⟩
  have b_lsd := hT.gi gm tt_10 (k := 90) rfl
  rw [f_m_listed] at b_lsd
  have b_lsd : 0 ≤ lsd.toInt ∧ lsd.toInt ≤ 8 := b_lsd
  obtain ⟨a0, f_m_acts⟩ : ∃ y : Int32, hl1.2.1 am 1 = y := ⟨_, rfl⟩
  have b_a0 := hT.gi gm tt_10 (k := 1) rfl
  rw [f_m_acts] at b_a0
  have b_a0 : 0 ≤ a0.toInt ∧ a0.toInt ≤ 8 := b_a0
  obtain ⟨m0, f_m_heardMany⟩ : ∃ y : Int32, hl1.2.1 am 57 = y := ⟨_, rfl⟩
  have b_m0 := hT.gi gm tt_10 (k := 57) rfl
  rw [f_m_heardMany] at b_m0
  have b_m0 : 0 ≤ m0.toInt ∧ m0.toInt ≤ 100 := b_m0
  have f_x_now : hl1.2.1 ax 2 = nw := he_nw.trans f_m_now
  have f_x_personCount : hl1.2.1 ax 8 = np := he_np.trans f_m_persons
  have f_x_claimCount : hl1.2.1 ax 11 = c0 := he_c0.trans f_m_claims
  obtain ⟨mw, f_mw, g_mw⟩ := hx_rf hT gm tt_10 (k := 19) (u := 57) rfl
  obtain ⟨F_mw, n_mw⟩ : ∃ g : Nat → Int32, hl1.2.1 mw = g := ⟨_, rfl⟩
  obtain ⟨mr, f_mr, g_mr⟩ := hx_rf hT gm tt_10 (k := 3) (u := 50) rfl
  obtain ⟨F_mr, n_mr⟩ : ∃ g : Nat → Int32, hl1.2.1 mr = g := ⟨_, rfl⟩
  obtain ⟨mp, f_mp, g_mp⟩ := hx_rf hT gm tt_10 (k := 5) (u := 52) rfl
  obtain ⟨F_mp, n_mp⟩ : ∃ g : Nat → Int32, hl1.2.1 mp = g := ⟨_, rfl⟩
  obtain ⟨mn, f_mn, g_mn⟩ := hx_rf hT gm tt_10 (k := 4) (u := 51) rfl
  obtain ⟨F_mn, n_mn⟩ : ∃ g : Nat → Int32, hl1.2.1 mn = g := ⟨_, rfl⟩
  obtain ⟨ml, f_ml, g_ml⟩ := hx_rf hT gm tt_10 (k := 44) (u := 79) rfl
  obtain ⟨F_ml, n_ml⟩ : ∃ g : Nat → Int32, hl1.2.1 ml = g := ⟨_, rfl⟩
  obtain ⟨mh, f_mh, g_mh⟩ := hx_rf hT gm tt_10 (k := 47) (u := 82) rfl
  obtain ⟨F_mh, n_mh⟩ : ∃ g : Nat → Int32, hl1.2.1 mh = g := ⟨_, rfl⟩
  obtain ⟨mt, f_mt, g_mt⟩ := hx_rf hT gm tt_10 (k := 45) (u := 80) rfl
  obtain ⟨F_mt, n_mt⟩ : ∃ g : Nat → Int32, hl1.2.1 mt = g := ⟨_, rfl⟩
  obtain ⟨m_fou, f_m_fou, g_m_fou⟩ := hx_rf hT gm tt_10 (k := 46) (u := 81) rfl
  obtain ⟨F_m_fou, n_m_fou⟩ : ∃ g : Nat → Int32, hl1.2.1 m_fou = g := ⟨_, rfl⟩
  obtain ⟨qo_ln, f_qo_ln, g_qo_ln⟩ := hx_rf hT gx tt_9 (k := 9) (u := 1) rfl
  have f_o_ln : hl1.2.1 qo_ln 0 = ln := (ho_ln qo_ln f_qo_ln).trans f_m_lines
  have f_o_lsd : hl1.2.1 qw 0 = lsd := (ho_lsd qw f_qw).trans f_m_listed
  have nu_qp := hn_qp qp f_qp; rw [f_x_personCount] at nu_qp
  have nu_qc := hn_qc qc f_qc; rw [f_x_claimCount] at nu_qc
  have sb_list := hLQ qw ql qc f_qw f_ql f_qc
  obtain ⟨m_lst, f_m_lst, g_m_lst⟩ := hx_rf hT gm tt_10 (k := 91) (u := 112) rfl
  obtain ⟨F_lst, n_lst⟩ : ∃ g : Nat → Int32, hl1.2.1 m_lst = g := ⟨_, rfl⟩
  obtain ⟨c_lst, cl_lst⟩ : ∃ g : Nat → Int32, hx_col 8 hl1 ql 0 = g := ⟨_, rfl⟩
  have eq_lst := hLE qw ql m_lst f_qw f_ql f_m_lst; rw [cl_lst, n_lst] at eq_lst
  obtain ⟨c_dead, cl_dead⟩ : ∃ g : Nat → Int32, hx_col 40 hl1 qp 7 = g := ⟨_, rfl⟩
  obtain ⟨m_dead, f_m_dead, g_m_dead⟩ := hx_rf hT gm tt_10 (k := 27) (u := 64) rfl
  obtain ⟨F_dead, n_dead⟩ : ∃ g : Nat → Int32, hl1.2.1 m_dead = g := ⟨_, rfl⟩
  have eq_dead := hc_dead qp m_dead f_qp f_m_dead; rw [cl_dead, n_dead] at eq_dead
  have z_dead : np.toInt.toNat < 40 → c_dead np.toInt.toNat = 0 := fun hj => hx_num_z nu_qp cl_dead hj (by omega)
  obtain ⟨c_isj, cl_isj⟩ : ∃ g : Nat → Int32, hx_col 40 hl1 qp 8 = g := ⟨_, rfl⟩
  obtain ⟨m_isj, f_m_isj, g_m_isj⟩ := hx_rf hT gm tt_10 (k := 28) (u := 65) rfl
  obtain ⟨F_isj, n_isj⟩ : ∃ g : Nat → Int32, hl1.2.1 m_isj = g := ⟨_, rfl⟩
  have eq_isj := hc_isj qp m_isj f_qp f_m_isj; rw [cl_isj, n_isj] at eq_isj
  have z_isj : np.toInt.toNat < 40 → c_isj np.toInt.toNat = 0 := fun hj => hx_num_z nu_qp cl_isj hj (by omega)
  obtain ⟨c_fou, cl_fou⟩ : ∃ g : Nat → Int32, hx_col 100 hl1 qc 10 = g := ⟨_, rfl⟩
  have eq_fou := hc_fou qc m_fou f_qc f_m_fou; rw [cl_fou, n_m_fou] at eq_fou
  have z_fou : c0.toInt.toNat < 100 → c_fou c0.toInt.toNat = 0 := fun hj => hx_num_z nu_qc cl_fou hj (by omega)
  obtain ⟨c_tri, cl_tri⟩ : ∃ g : Nat → Int32, hx_col 100 hl1 qc 9 = g := ⟨_, rfl⟩
  have eq_tri := hc_tri qc mt f_qc f_mt; rw [cl_tri, n_mt] at eq_tri
  have z_tri : c0.toInt.toNat < 100 → c_tri c0.toInt.toNat = 0 := fun hj => hx_num_z nu_qc cl_tri hj (by omega)
  have hwd := jw mw f_mw; rw [n_mw] at hwd
  have hWK := jr mr f_mr; rw [n_mr, f_m_acts] at hWK
  have hRP := jp mp mn f_mp f_mn; rw [n_mp, n_mn, f_m_acts] at hRP
  have hPL := jl ml f_ml; rw [n_ml, f_m_claims, f_m_acts] at hPL
  have hHC := jh mh f_mh; rw [n_mh, f_m_heardMany, f_m_claims] at hHC
  have hTR := jt mt f_mt; rw [n_mt] at hTR
  have hHF := jf mh m_fou f_mh f_m_fou; rw [n_mh, n_m_fou, f_m_claims] at hHF
  refine lv_aload_n hx hb dL_law_1195 rfl (lv_at hl 2 rfl) ?_
  have hTo := hT
  refine hx_goi (hx_runV (As := []) (rest := []) ⟨hx, hb, hml, hown, hts⟩ hW gx tt_9 (T := TX9) (N := 20) rfl (t_X9_net l dC dI dA L1 hl1 H.size ax hT gx qc g_qc f_qc pf_qc) (cwV 0 hts (hx_gV kw_984 kw_981 kw_982 kw_983 kw_94) rfl rfl rfl (by decide +kernel) ⟨Nat.le_of_ble_eq_true rfl, Nat.le_of_ble_eq_true rfl⟩) rfl hl.1 rfl (Nat.le_of_ble_eq_true rfl) dL_law_1196 ⟨(show CC + 0 ≤ 600000 from by omega), (show SS + 0 ≤ 7302250 from by omega)⟩) hW (fun r_579 L_577 h_578 H locs p_580 hW => ?_)
  obtain ⟨hr_581, hT, hs⟩ := p_580
  have hT : hx_T T_tb L_577 h_578 := hT
  have hs : hx_S T_tb [(3, 0), (7, 0), (7, 1), (7, 2), (7, 4), (22, 0), (23, 0), (24, 0), (25, 0), (26, 0), (35, 0), (36, 0), (37, 0), (38, 0), (48, 0)] L1 hl1 L_577 h_578 := hs
  have f_qa := (hs.o gx trivial rfl).2.trans f_qa
  have f_qp := (hs.o gx trivial rfl).2.trans f_qp
  have f_qc := (hs.o gx trivial rfl).2.trans f_qc
  have f_qh := (hs.o gx trivial rfl).2.trans f_qh
  have f_qw := (hs.o gx trivial rfl).2.trans f_qw
  have f_ql := (hs.o g_qw trivial rfl).2.trans f_ql
  have f_m_now := (hs.o gm trivial rfl).1.trans f_m_now
  have f_m_persons := (hs.o gm trivial rfl).1.trans f_m_persons
  have f_m_claims := (hs.o gm trivial rfl).1.trans f_m_claims
  have f_m_lines := (hs.o gm trivial rfl).1.trans f_m_lines
  have f_m_listed := (hs.o gm trivial rfl).1.trans f_m_listed
  have f_m_acts := (hs.o gm trivial rfl).1.trans f_m_acts
  have f_m_heardMany := (hs.o gm trivial rfl).1.trans f_m_heardMany
  have f_x_now := (hs.o gx trivial rfl).1.trans f_x_now
  have f_x_personCount := (hs.o gx trivial rfl).1.trans f_x_personCount
  have f_x_claimCount := (hs.o gx trivial rfl).1.trans f_x_claimCount
  have f_mw := (hs.o gm trivial rfl).2.trans f_mw
  have f_mr := (hs.o gm trivial rfl).2.trans f_mr
  have f_mp := (hs.o gm trivial rfl).2.trans f_mp
  have f_mn := (hs.o gm trivial rfl).2.trans f_mn
  have f_ml := (hs.o gm trivial rfl).2.trans f_ml
  have f_mh := (hs.o gm trivial rfl).2.trans f_mh
  have f_mt := (hs.o gm trivial rfl).2.trans f_mt
  have f_m_fou := (hs.o gm trivial rfl).2.trans f_m_fou
  have f_qo_ln := (hs.o gx trivial rfl).2.trans f_qo_ln
  have f_o_ln := (hs.o g_qo_ln trivial rfl).1.trans f_o_ln
  have f_o_lsd := (hs.o g_qw trivial rfl).1.trans f_o_lsd
  have f_m_lst := (hs.o gm trivial rfl).2.trans f_m_lst
  have f_m_dead := (hs.o gm trivial rfl).2.trans f_m_dead
  have f_m_isj := (hs.o gm trivial rfl).2.trans f_m_isj
  have pf_qa : ∀ j : Nat, (j : Int) < (h_578.2.1 ax 6).toInt → h_578.2.2 qa j ≠ none := by
    intro j hj; rw [(hs.o gx trivial rfl).1] at hj; rw [(hs.a g_qa rfl j).2]; exact pf_qa j hj
  have pf_qp : ∀ j : Nat, (j : Int) < (h_578.2.1 ax 8).toInt → h_578.2.2 qp j ≠ none := by
    intro j hj; rw [(hs.o gx trivial rfl).1] at hj; rw [(hs.a g_qp rfl j).2]; exact pf_qp j hj
  have pf_qc : ∀ j : Nat, (j : Int) < (h_578.2.1 ax 11).toInt → h_578.2.2 qc j ≠ none := by
    intro j hj; rw [(hs.o gx trivial rfl).1] at hj; rw [(hs.a g_qc rfl j).2]; exact pf_qc j hj
  have pf_qh : ∀ j : Nat, (j : Int) < (h_578.2.1 ax 13).toInt → h_578.2.2 qh j ≠ none := by
    intro j hj; rw [(hs.o gx trivial rfl).1] at hj; rw [(hs.a g_qh rfl j).2]; exact pf_qh j hj
  have pf_ql : ∀ j : Nat, (j : Int) < (h_578.2.1 qw 0).toInt → h_578.2.2 ql j ≠ none := by
    intro j hj; rw [(hs.o g_qw trivial rfl).1] at hj; rw [(hs.a g_ql rfl j).2]; exact pf_ql j hj
  have cl_lst : hx_col 8 h_578 ql 0 = c_lst := (hx_col_S hs hTo g_ql tt_40 tt_2 rfl rfl).trans cl_lst
  have cl_dead : hx_col 40 h_578 qp 7 = c_dead := (hx_col_S hs hTo g_qp tt_44 tt_4 rfl rfl).trans cl_dead
  have cl_isj : hx_col 40 h_578 qp 8 = c_isj := (hx_col_S hs hTo g_qp tt_44 tt_4 rfl rfl).trans cl_isj
  have cl_fou : hx_col 100 h_578 qc 10 = c_fou := (hx_col_S hs hTo g_qc tt_45 tt_2 rfl rfl).trans cl_fou
  have cl_tri : hx_col 100 h_578 qc 9 = c_tri := (hx_col_S hs hTo g_qc tt_45 tt_2 rfl rfl).trans cl_tri
  have nu_qp : hx_num 40 h_578 qp 0 (np.toInt) := hx_num_S hs hTo g_qp tt_44 tt_4 rfl rfl nu_qp
  have nu_qc : hx_num 100 h_578 qc 0 (c0.toInt) := hx_num_S hs hTo g_qc tt_45 tt_2 rfl rfl nu_qc
  have sb_list : hx_LQ 8 100 h_578 ql qc := hx_LQ_S hs g_ql g_qc rfl rfl sb_list
  have n_mw : h_578.2.1 mw = F_mw := (funext fun j => (hs.a g_mw rfl j).1).trans n_mw
  have n_mr : h_578.2.1 mr = F_mr := (funext fun j => (hs.a g_mr rfl j).1).trans n_mr
  have n_mp : h_578.2.1 mp = F_mp := (funext fun j => (hs.a g_mp rfl j).1).trans n_mp
  have n_mn : h_578.2.1 mn = F_mn := (funext fun j => (hs.a g_mn rfl j).1).trans n_mn
  have n_ml : h_578.2.1 ml = F_ml := (funext fun j => (hs.a g_ml rfl j).1).trans n_ml
  have n_mh : h_578.2.1 mh = F_mh := (funext fun j => (hs.a g_mh rfl j).1).trans n_mh
  have n_mt : h_578.2.1 mt = F_mt := (funext fun j => (hs.a g_mt rfl j).1).trans n_mt
  have n_m_fou : h_578.2.1 m_fou = F_m_fou := (funext fun j => (hs.a g_m_fou rfl j).1).trans n_m_fou
  have n_lst : h_578.2.1 m_lst = F_lst := (funext fun j => (hs.a g_m_lst rfl j).1).trans n_lst
  have n_dead : h_578.2.1 m_dead = F_dead := (funext fun j => (hs.a g_m_dead rfl j).1).trans n_dead
  have n_isj : h_578.2.1 m_isj = F_isj := (funext fun j => (hs.a g_m_isj rfl j).1).trans n_isj
  have gx := gx.S hs
  have gm := gm.S hs
  have g_qa := g_qa.S hs
  have g_qp := g_qp.S hs
  have g_qc := g_qc.S hs
  have g_qh := g_qh.S hs
  have g_qw := g_qw.S hs
  have g_ql := g_ql.S hs
  have g_mw := g_mw.S hs
  have g_mr := g_mr.S hs
  have g_mp := g_mp.S hs
  have g_mn := g_mn.S hs
  have g_ml := g_ml.S hs
  have g_mh := g_mh.S hs
  have g_mt := g_mt.S hs
  have g_m_fou := g_m_fou.S hs
  have g_qo_ln := g_qo_ln.S hs
  have g_m_lst := g_m_lst.S hs
  have g_m_dead := g_m_dead.S hs
  have g_m_isj := g_m_isj.S hs
  refine lv_pop hx hb dL_law_1199 rfl ?_
  refine lv_aload_n hx hb dL_law_1200 rfl (lv_at hl 1 rfl) ?_
  have hTo := hT
  obtain ⟨q_582, fq_582, gq_582⟩ := hx_rf hT gm tt_10 (k := 48) (u := 83) rfl
  obtain ⟨q_583, fq_583, gq_583⟩ := hx_rf hT gm tt_10 (k := 50) (u := 85) rfl
  obtain ⟨q_584, fq_584, gq_584⟩ := hx_rf hT gm tt_10 (k := 49) (u := 84) rfl
  obtain ⟨q_585, fq_585, gq_585⟩ := hx_rf hT gm tt_10 (k := 56) (u := 91) rfl
  obtain ⟨q_586, fq_586, gq_586⟩ := hx_rf hT gm tt_10 (k := 55) (u := 90) rfl
  obtain ⟨q_587, fq_587, gq_587⟩ := hx_rf hT gm tt_10 (k := 60) (u := 93) rfl
  obtain ⟨q_588, fq_588, gq_588⟩ := hx_rf hT gm tt_10 (k := 61) (u := 94) rfl
  obtain ⟨q_589, fq_589, gq_589⟩ := hx_rf hT gm tt_10 (k := 62) (u := 95) rfl
  obtain ⟨q_590, fq_590, gq_590⟩ := hx_rf hT gm tt_10 (k := 63) (u := 96) rfl
  obtain ⟨q_591, fq_591, gq_591⟩ := hx_rf hT gm tt_10 (k := 64) (u := 97) rfl
  obtain ⟨q_592, fq_592, gq_592⟩ := hx_rf hT gm tt_10 (k := 38) (u := 73) rfl
  obtain ⟨q_593, fq_593, gq_593⟩ := hx_rf hT gm tt_10 (k := 37) (u := 72) rfl
  obtain ⟨q_594, fq_594, gq_594⟩ := hx_rf hT gm tt_10 (k := 82) (u := 108) rfl
  obtain ⟨q_595, fq_595, gq_595⟩ := hx_rf hT gm tt_10 (k := 89) (u := 111) rfl
  obtain ⟨q_596, fq_596, gq_596⟩ := hx_rf hT gm tt_10 (k := 88) (u := 110) rfl
  obtain ⟨fa_597, nfa_597⟩ : ∃ g : Nat → Int32, h_578.2.1 q_582 = g := ⟨_, rfl⟩
  obtain ⟨fa_598, nfa_598⟩ : ∃ g : Nat → Int32, h_578.2.1 q_583 = g := ⟨_, rfl⟩
  obtain ⟨fa_599, nfa_599⟩ : ∃ g : Nat → Int32, h_578.2.1 q_584 = g := ⟨_, rfl⟩
  obtain ⟨fa_600, nfa_600⟩ : ∃ g : Nat → Int32, h_578.2.1 q_585 = g := ⟨_, rfl⟩
  obtain ⟨fa_601, nfa_601⟩ : ∃ g : Nat → Int32, h_578.2.1 q_586 = g := ⟨_, rfl⟩
  obtain ⟨fa_602, nfa_602⟩ : ∃ g : Nat → Int32, h_578.2.1 q_587 = g := ⟨_, rfl⟩
  obtain ⟨fa_603, nfa_603⟩ : ∃ g : Nat → Int32, h_578.2.1 q_588 = g := ⟨_, rfl⟩
  obtain ⟨fa_604, nfa_604⟩ : ∃ g : Nat → Int32, h_578.2.1 q_589 = g := ⟨_, rfl⟩
  obtain ⟨fa_605, nfa_605⟩ : ∃ g : Nat → Int32, h_578.2.1 q_590 = g := ⟨_, rfl⟩
  obtain ⟨fa_606, nfa_606⟩ : ∃ g : Nat → Int32, h_578.2.1 q_591 = g := ⟨_, rfl⟩
  obtain ⟨fa_607, nfa_607⟩ : ∃ g : Nat → Int32, h_578.2.1 q_592 = g := ⟨_, rfl⟩
  obtain ⟨fa_608, nfa_608⟩ : ∃ g : Nat → Int32, h_578.2.1 q_593 = g := ⟨_, rfl⟩
  refine hx_goi (hx_runV (As := []) (rest := []) ⟨hx, hb, hml, hown, hts⟩ hW gm tt_10 (T := TX10) (N := 98) rfl (t_X10_net_2 l dC dI dA L_577 h_578 H.size am hT gm q_582 gq_582 fq_582 q_583 gq_583 fq_583 q_584 gq_584 fq_584 q_585 gq_585 fq_585 q_586 gq_586 fq_586 ml g_ml f_ml mr g_mr f_mr q_587 gq_587 fq_587 q_588 gq_588 fq_588 q_589 gq_589 fq_589 q_590 gq_590 fq_590 q_591 gq_591 fq_591 q_592 gq_592 fq_592 q_593 gq_593 fq_593 q_594 gq_594 fq_594 q_595 gq_595 fq_595 q_596 gq_596 fq_596 fa_597 nfa_597 fa_598 nfa_598 fa_599 nfa_599 fa_600 nfa_600 fa_601 nfa_601 F_ml n_ml F_mr n_mr fa_602 nfa_602 fa_603 nfa_603 fa_604 nfa_604 fa_605 nfa_605 fa_606 nfa_606 fa_607 nfa_607 fa_608 nfa_608 nw f_m_now c0 f_m_claims) (cwV 0 hts (hx_gV kw_1690 kw_1687 kw_1688 kw_1689 kw_103) rfl rfl rfl (by decide +kernel) ⟨Nat.le_of_ble_eq_true rfl, Nat.le_of_ble_eq_true rfl⟩) rfl hl.1 rfl (Nat.le_of_ble_eq_true rfl) dL_law_1201 ⟨(show CC + 0 + 0 ≤ 600000 from by omega), (show SS + 0 + 0 ≤ 7302250 from by omega)⟩) hW (fun r_611 L_609 h_610 H locs p_612 hW => ?_)
  obtain ⟨hr_613, hT, hs⟩ := p_612
  have hT : hx_T T_tb L_609 h_610 := hT
  have hs : hx_S T_tb [(10, 59), (10, 67), (10, 68), (10, 69), (10, 70), (10, 71), (10, 83), (10, 84), (10, 86), (10, 87), (93, 0), (94, 0), (95, 0), (96, 0), (97, 0), (108, 0), (109, 0), (110, 0), (111, 0)] L_577 h_578 L_609 h_610 := hs
  have f_qa := (hs.o gx trivial rfl).2.trans f_qa
  have f_qp := (hs.o gx trivial rfl).2.trans f_qp
  have f_qc := (hs.o gx trivial rfl).2.trans f_qc
  have f_qh := (hs.o gx trivial rfl).2.trans f_qh
  have f_qw := (hs.o gx trivial rfl).2.trans f_qw
  have f_ql := (hs.o g_qw trivial rfl).2.trans f_ql
  have f_m_now := (hs.o gm trivial rfl).1.trans f_m_now
  have f_m_persons := (hs.o gm trivial rfl).1.trans f_m_persons
  have f_m_claims := (hs.o gm trivial rfl).1.trans f_m_claims
  have f_m_lines := (hs.o gm trivial rfl).1.trans f_m_lines
  have f_m_listed := (hs.o gm trivial rfl).1.trans f_m_listed
  have f_m_acts := (hs.o gm trivial rfl).1.trans f_m_acts
  have f_m_heardMany := (hs.o gm trivial rfl).1.trans f_m_heardMany
  have f_x_now := (hs.o gx trivial rfl).1.trans f_x_now
  have f_x_personCount := (hs.o gx trivial rfl).1.trans f_x_personCount
  have f_x_claimCount := (hs.o gx trivial rfl).1.trans f_x_claimCount
  have f_mw := (hs.o gm trivial rfl).2.trans f_mw
  have f_mr := (hs.o gm trivial rfl).2.trans f_mr
  have f_mp := (hs.o gm trivial rfl).2.trans f_mp
  have f_mn := (hs.o gm trivial rfl).2.trans f_mn
  have f_ml := (hs.o gm trivial rfl).2.trans f_ml
  have f_mh := (hs.o gm trivial rfl).2.trans f_mh
  have f_mt := (hs.o gm trivial rfl).2.trans f_mt
  have f_m_fou := (hs.o gm trivial rfl).2.trans f_m_fou
  have f_qo_ln := (hs.o gx trivial rfl).2.trans f_qo_ln
  have f_o_ln := (hs.o g_qo_ln trivial rfl).1.trans f_o_ln
  have f_o_lsd := (hs.o g_qw trivial rfl).1.trans f_o_lsd
  have f_m_lst := (hs.o gm trivial rfl).2.trans f_m_lst
  have f_m_dead := (hs.o gm trivial rfl).2.trans f_m_dead
  have f_m_isj := (hs.o gm trivial rfl).2.trans f_m_isj
  have fq_582 := (hs.o gm trivial rfl).2.trans fq_582
  have fq_583 := (hs.o gm trivial rfl).2.trans fq_583
  have fq_584 := (hs.o gm trivial rfl).2.trans fq_584
  have fq_585 := (hs.o gm trivial rfl).2.trans fq_585
  have fq_586 := (hs.o gm trivial rfl).2.trans fq_586
  have fq_587 := (hs.o gm trivial rfl).2.trans fq_587
  have fq_588 := (hs.o gm trivial rfl).2.trans fq_588
  have fq_589 := (hs.o gm trivial rfl).2.trans fq_589
  have fq_590 := (hs.o gm trivial rfl).2.trans fq_590
  have fq_591 := (hs.o gm trivial rfl).2.trans fq_591
  have fq_592 := (hs.o gm trivial rfl).2.trans fq_592
  have fq_593 := (hs.o gm trivial rfl).2.trans fq_593
  have fq_594 := (hs.o gm trivial rfl).2.trans fq_594
  have fq_595 := (hs.o gm trivial rfl).2.trans fq_595
  have fq_596 := (hs.o gm trivial rfl).2.trans fq_596
  have pf_qa : ∀ j : Nat, (j : Int) < (h_610.2.1 ax 6).toInt → h_610.2.2 qa j ≠ none := by
    intro j hj; rw [(hs.o gx trivial rfl).1] at hj; rw [(hs.a g_qa rfl j).2]; exact pf_qa j hj
  have pf_qp : ∀ j : Nat, (j : Int) < (h_610.2.1 ax 8).toInt → h_610.2.2 qp j ≠ none := by
    intro j hj; rw [(hs.o gx trivial rfl).1] at hj; rw [(hs.a g_qp rfl j).2]; exact pf_qp j hj
  have pf_qc : ∀ j : Nat, (j : Int) < (h_610.2.1 ax 11).toInt → h_610.2.2 qc j ≠ none := by
    intro j hj; rw [(hs.o gx trivial rfl).1] at hj; rw [(hs.a g_qc rfl j).2]; exact pf_qc j hj
  have pf_qh : ∀ j : Nat, (j : Int) < (h_610.2.1 ax 13).toInt → h_610.2.2 qh j ≠ none := by
    intro j hj; rw [(hs.o gx trivial rfl).1] at hj; rw [(hs.a g_qh rfl j).2]; exact pf_qh j hj
  have pf_ql : ∀ j : Nat, (j : Int) < (h_610.2.1 qw 0).toInt → h_610.2.2 ql j ≠ none := by
    intro j hj; rw [(hs.o g_qw trivial rfl).1] at hj; rw [(hs.a g_ql rfl j).2]; exact pf_ql j hj
  have cl_lst : hx_col 8 h_610 ql 0 = c_lst := (hx_col_S hs hTo g_ql tt_40 tt_2 rfl rfl).trans cl_lst
  have cl_dead : hx_col 40 h_610 qp 7 = c_dead := (hx_col_S hs hTo g_qp tt_44 tt_4 rfl rfl).trans cl_dead
  have cl_isj : hx_col 40 h_610 qp 8 = c_isj := (hx_col_S hs hTo g_qp tt_44 tt_4 rfl rfl).trans cl_isj
  have cl_fou : hx_col 100 h_610 qc 10 = c_fou := (hx_col_S hs hTo g_qc tt_45 tt_2 rfl rfl).trans cl_fou
  have cl_tri : hx_col 100 h_610 qc 9 = c_tri := (hx_col_S hs hTo g_qc tt_45 tt_2 rfl rfl).trans cl_tri
  have nu_qp : hx_num 40 h_610 qp 0 (np.toInt) := hx_num_S hs hTo g_qp tt_44 tt_4 rfl rfl nu_qp
  have nu_qc : hx_num 100 h_610 qc 0 (c0.toInt) := hx_num_S hs hTo g_qc tt_45 tt_2 rfl rfl nu_qc
  have sb_list : hx_LQ 8 100 h_610 ql qc := hx_LQ_S hs g_ql g_qc rfl rfl sb_list
  have n_mw : h_610.2.1 mw = F_mw := (funext fun j => (hs.a g_mw rfl j).1).trans n_mw
  have n_mr : h_610.2.1 mr = F_mr := (funext fun j => (hs.a g_mr rfl j).1).trans n_mr
  have n_mp : h_610.2.1 mp = F_mp := (funext fun j => (hs.a g_mp rfl j).1).trans n_mp
  have n_mn : h_610.2.1 mn = F_mn := (funext fun j => (hs.a g_mn rfl j).1).trans n_mn
  have n_ml : h_610.2.1 ml = F_ml := (funext fun j => (hs.a g_ml rfl j).1).trans n_ml
  have n_mh : h_610.2.1 mh = F_mh := (funext fun j => (hs.a g_mh rfl j).1).trans n_mh
  have n_mt : h_610.2.1 mt = F_mt := (funext fun j => (hs.a g_mt rfl j).1).trans n_mt
  have n_m_fou : h_610.2.1 m_fou = F_m_fou := (funext fun j => (hs.a g_m_fou rfl j).1).trans n_m_fou
  have n_lst : h_610.2.1 m_lst = F_lst := (funext fun j => (hs.a g_m_lst rfl j).1).trans n_lst
  have n_dead : h_610.2.1 m_dead = F_dead := (funext fun j => (hs.a g_m_dead rfl j).1).trans n_dead
  have n_isj : h_610.2.1 m_isj = F_isj := (funext fun j => (hs.a g_m_isj rfl j).1).trans n_isj
  have nfa_597 : h_610.2.1 q_582 = fa_597 := (funext fun j => (hs.a gq_582 rfl j).1).trans nfa_597
  have nfa_598 : h_610.2.1 q_583 = fa_598 := (funext fun j => (hs.a gq_583 rfl j).1).trans nfa_598
  have nfa_599 : h_610.2.1 q_584 = fa_599 := (funext fun j => (hs.a gq_584 rfl j).1).trans nfa_599
  have nfa_600 : h_610.2.1 q_585 = fa_600 := (funext fun j => (hs.a gq_585 rfl j).1).trans nfa_600
  have nfa_601 : h_610.2.1 q_586 = fa_601 := (funext fun j => (hs.a gq_586 rfl j).1).trans nfa_601
  have nfa_607 : h_610.2.1 q_592 = fa_607 := (funext fun j => (hs.a gq_592 rfl j).1).trans nfa_607
  have nfa_608 : h_610.2.1 q_593 = fa_608 := (funext fun j => (hs.a gq_593 rfl j).1).trans nfa_608
  have gx := gx.S hs
  have gm := gm.S hs
  have g_qa := g_qa.S hs
  have g_qp := g_qp.S hs
  have g_qc := g_qc.S hs
  have g_qh := g_qh.S hs
  have g_qw := g_qw.S hs
  have g_ql := g_ql.S hs
  have g_mw := g_mw.S hs
  have g_mr := g_mr.S hs
  have g_mp := g_mp.S hs
  have g_mn := g_mn.S hs
  have g_ml := g_ml.S hs
  have g_mh := g_mh.S hs
  have g_mt := g_mt.S hs
  have g_m_fou := g_m_fou.S hs
  have g_qo_ln := g_qo_ln.S hs
  have g_m_lst := g_m_lst.S hs
  have g_m_dead := g_m_dead.S hs
  have g_m_isj := g_m_isj.S hs
  have gq_582 := gq_582.S hs
  have gq_583 := gq_583.S hs
  have gq_584 := gq_584.S hs
  have gq_585 := gq_585.S hs
  have gq_586 := gq_586.S hs
  have gq_587 := gq_587.S hs
  have gq_588 := gq_588.S hs
  have gq_589 := gq_589.S hs
  have gq_590 := gq_590.S hs
  have gq_591 := gq_591.S hs
  have gq_592 := gq_592.S hs
  have gq_593 := gq_593.S hs
  have gq_594 := gq_594.S hs
  have gq_595 := gq_595.S hs
  have gq_596 := gq_596.S hs
  refine lv_pop hx hb dL_law_1204 rfl ?_
  refine lv_goto (tgt := 1379) hx hb dL_law_1205 (by decide) ?_
  refine W.widen (k := CC + 3) (n := SS + 179) (by omega) (by omega) ?_
  exact kk L_609 h_610 H locs ls hW ⟨hT, gx, gm, ⟨f_x_now.trans f_m_now.symm, f_x_personCount.trans f_m_persons.symm, f_x_claimCount.trans f_m_claims.symm, hx_ob f_qo_ln (f_o_ln.trans f_m_lines.symm), hx_ob f_qw (f_o_lsd.trans f_m_listed.symm), hx_ob f_qp (by rw [f_x_personCount]; exact nu_qp), hx_ob f_qc (by rw [f_x_claimCount]; exact nu_qc), (fun w q c hw hq hc => by obtain rfl : qw = w := Option.some.inj (f_qw.symm.trans hw); obtain rfl : ql = q := Option.some.inj (f_ql.symm.trans hq); obtain rfl : qc = c := Option.some.inj (f_qc.symm.trans hc); exact sb_list), (fun w q r hw hq hr => by obtain rfl : qw = w := Option.some.inj (f_qw.symm.trans hw); obtain rfl : ql = q := Option.some.inj (f_ql.symm.trans hq); obtain rfl : m_lst = r := Option.some.inj (f_m_lst.symm.trans hr); rw [cl_lst, n_lst]; exact eq_lst), hx_ob2 f_qp f_m_dead (by rw [cl_dead, n_dead]; exact eq_dead), hx_ob2 f_qp f_m_isj (by rw [cl_isj, n_isj]; exact eq_isj), hx_ob2 f_qc f_m_fou (by rw [cl_fou, n_m_fou]; exact eq_fou), hx_ob2 f_qc f_mt (by rw [cl_tri, n_mt]; exact eq_tri), trivial⟩, ⟨hx_ob f_qa pf_qa, hx_ob f_qp pf_qp, hx_ob f_qc pf_qc, hx_ob f_qh pf_qh, (fun w q hw hq => by obtain rfl : qw = w := Option.some.inj (f_qw.symm.trans hw); obtain rfl : ql = q := Option.some.inj (f_ql.symm.trans hq); exact pf_ql)⟩, ⟨hx_ob f_mw (by rw [n_mw]; exact hwd), hx_ob f_mr (by rw [n_mr, f_m_acts]; exact hWK), hx_ob2 f_mp f_mn (by rw [n_mp, n_mn, f_m_acts]; exact hRP), hx_ob f_ml (by rw [n_ml, f_m_claims, f_m_acts]; exact hPL), hx_ob f_mh (by rw [n_mh, f_m_heardMany, f_m_claims]; exact hHC), hx_ob f_mt (by rw [n_mt]; exact (hx_TR_le hTR (by omega))), hx_ob2 f_mh f_m_fou (by rw [n_mh, n_m_fou, f_m_claims]; exact hHF)⟩⟩ hl
