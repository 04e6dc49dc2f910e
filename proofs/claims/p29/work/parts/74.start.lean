set_option maxHeartbeats 4000000 in
set_option maxRecDepth 100000 in
/-- THE LAW, from its entry -/
theorem whole_start {p : Program} {e : Env} {s : State} {m : MethodId} {below : List Frame} {meth : Method} {c : Code} (l : Launch) (hflags : l.flags = flags0) {b LN : Nat} {xs : Nat → Int32} (hL : LN ≤ 3584) (C0 : lw_At p s m meth c b LN xs) : W p l e room_1 s m #[Value.ref b] below meth c s.heap [] 0 0 (lw_Z below #[Value.ref b] s) (entryFrame m ([Value.ref b] : List Value).toArray 4) := by
  obtain ⟨hx, hb, hr, hml, hown, htl, hX, hbl, hlocks, hgv⟩ := id C0
  have hown : s.vm.findClass "SmallCourtLaw" = some m.cls := hown
  have hts : ∀ w ∈ hx_all, w.before #[Value.ref b] s = true := fun w hw => htl w (hx_sub w hw)
  have hA : ∀ q : Nat, s.heap.size ≤ q → (fun q : Nat => s.heap.size ≤ q) q := fun _ h => h
  have hbA : ¬ s.heap.size ≤ b := Nat.not_le.mpr hbl
  obtain ⟨w0, hz1, hz2, hz3⟩ := hx_wo hgv htl
  obtain ⟨t1, t2, kf, vf, hz4⟩ := hx_xs hgv htl
  obtain ⟨b0, hb0⟩ : ∃ z : hx_z, z = (w0, t1, t2, kf, vf) := ⟨_, rfl⟩
  have hZ : hx_Xt (fun q : Nat => s.heap.size ≤ q) b0 s := by rw [hb0]; exact ⟨hx_nest htl, ⟨va_AO.of (htl _ kw_187), va_AO.of (htl _ kw_189), va_AO.of (htl _ kw_224)⟩, hz1, hz2, hz3, Nat.not_le.mpr hz3, hz4 w0⟩
  obtain ⟨dC, dI, dA, hK⟩ := hx_K0 htl
  have hW : hx_W T_tb (P_ty dA) (dC, dI) vwCl (fun q : Nat => s.heap.size ≤ q) s.heap [] (fun _ => 0, fun _ _ => 0, fun _ _ => none) s s.heap [] := ⟨hK, fun k q h => by simp [hx_p, va_pl] at h, ⟨fun i j p q h => by simp [hx_p, va_pl] at h, fun k q h => by simp [hx_p, va_pl] at h⟩, va_S.rf, hA⟩
  have hT : hx_T T_tb [] (fun _ => 0, fun _ _ => 0, fun _ _ => none) := fun a ha => by cases ha
  have hl := lv_entry ([.ref b]) (n := 4) (Nat.le_of_ble_eq_true rfl)
  rw [lg_entry_eq]
  generalize (lg_sl ([.ref b]) ++ List.replicate (4 - (lg_sl ([.ref b])).length) Slot.unset).toArray = ls at hl ⊢
  have hl : lv_has ls 4 [(0, .ref b)] := hl
  refine hk_new hx hb hts hC_9 hown hW 125 tt_125 rfl (by decide) kw_111 kw_112 kw_94 (Nat.le_of_ble_eq_true rfl) (Nat.le_of_ble_eq_true rfl) dL_law_0 (fun q_2 H h_1 eh_1 hqq_2 hW hs gq_2 => ?_)
  have hT : hx_T T_tb ([] ++ [q_2]) h_1 := by rw [eh_1]; exact hx_T_nw hT hqq_2 tt_125 rfl
  have fz_3 : ∀ j, ([] : List Nat).contains j = false → h_1.2.1 q_2 j = 0 ∧ h_1.2.2 q_2 j = none := by rw [eh_1]; exact fun _ _ => ⟨hx_nw_i, hx_nw_r⟩
  refine lv_dup hx hb dL_law_3 rfl ?_
  refine hx_gov (hx_runIX (As := []) (rest := [.ref q_2]) ⟨hx, hb, hml, hown, hts⟩ hW (t_X9_init l dC dI dA ([] ++ [q_2]) h_1 H.size b0 q_2 hT gq_2 (fun j => fz_3 j rfl)) hZ (cwI 0 hts (hx_gC kw_115) rfl rfl rfl (hts _ kw_94) (hts _ kw_113) (hts _ kw_114) rfl (by decide +kernel) ⟨Nat.le_of_ble_eq_true rfl, Nat.le_of_ble_eq_true rfl⟩) rfl hl.1 rfl (Nat.le_of_ble_eq_true rfl) dL_law_4 ⟨Nat.le_of_ble_eq_true rfl, Nat.le_of_ble_eq_true rfl⟩) hW (fun L_4 h_5 H locs p_7 hW => ?_)
  obtain ⟨hT, hs, gNq_2, po_8, po_9, po_10, po_11, po_12, po_13, po_14, po_15, po_16⟩ := p_7
  replace hT : hx_T T_tb L_4 h_5 := hT
  replace hs : hx_S T_tb [(11, 0), (12, 0), (116, 0), (116, 1), (116, 2), (116, 3), (116, 4), (117, 1), (117, 2), (117, 3), (117, 4), (117, 5), (117, 6), (117, 7), (119, 1), (119, 2), (119, 3), (119, 4), (119, 5), (121, 2), (121, 3), (121, 4), (121, 5), (121, 6), (121, 7), (121, 8), (122, 0), (123, 0), (123, 3), (123, 5), (123, 6), (123, 7), (124, 2), (124, 3), (124, 4), (125, 0), (125, 3), (125, 4), (125, 5), (125, 7), (125, 9), (125, 10), (125, 12), (125, 14), (125, 15), (125, 16), (125, 17), (125, 18), (125, 19)] (hx_X ([] ++ [q_2]) q_2) h_1 L_4 h_5 := hs
  have gq_2 : hx_g L_4 h_5 q_2 9 := gNq_2
  have po_8 : h_5.2.1 q_2 2 = 0 := po_8
  have po_9 : h_5.2.1 q_2 6 = 0 := po_9
  have po_10 : h_5.2.1 q_2 8 = 0 := po_10
  have po_11 : h_5.2.1 q_2 11 = 0 := po_11
  have po_12 : h_5.2.1 q_2 13 = 0 := po_12
  obtain ⟨q_17, fq_17, gq_17, po_13⟩ := po_13
  have fq_17 : h_5.2.2 q_2 19 = some q_17 := fq_17
  have gq_17 : hx_g L_4 h_5 q_17 8 := gq_17
  obtain ⟨po_13, po_13B, q_18, fq_18, gq_18, zq_18⟩ := po_13
  have po_13B : h_5.2.1 q_17 1 = 0 := po_13B
  have po_13 : h_5.2.1 q_17 0 = 0 := po_13
  have fq_18 : h_5.2.2 q_17 3 = some q_18 := fq_18
  have gq_18 : hx_g L_4 h_5 q_18 40 := gq_18
  have zq_18 : ∀ j, h_5.2.1 q_18 j = 0 ∧ h_5.2.2 q_18 j = none := zq_18
  obtain ⟨q_19, fq_19, gq_19, po_14⟩ := po_14
  have fq_19 : h_5.2.2 q_2 9 = some q_19 := fq_19
  have gq_19 : hx_g L_4 h_5 q_19 1 := gq_19
  have po_14 : h_5.2.1 q_19 0 = 0 := po_14
  obtain ⟨q_20, fq_20, gq_20, po_15⟩ := po_15
  have fq_20 : h_5.2.2 q_2 7 = some q_20 := fq_20
  have gq_20 : hx_g L_4 h_5 q_20 44 := gq_20
  have po_15 : ∀ j, h_5.2.1 q_20 j = 0 ∧ h_5.2.2 q_20 j = none := po_15
  obtain ⟨q_21, fq_21, gq_21, po_16⟩ := po_16
  have fq_21 : h_5.2.2 q_2 10 = some q_21 := fq_21
  have gq_21 : hx_g L_4 h_5 q_21 45 := gq_21
  have po_16 : ∀ j, h_5.2.1 q_21 j = 0 ∧ h_5.2.2 q_21 j = none := po_16
  refine lv_astore_n (lv' := [(1, .ref q_2), (0, .ref b)]) hx hb dL_law_7 rfl hl (by decide) rfl (fun ls hl => ?_)
  refine hk_new hx hb hts hC_10 hown hW 126 tt_126 rfl (by decide) kw_1113 kw_1114 kw_103 (Nat.le_of_ble_eq_true rfl) (Nat.le_of_ble_eq_true rfl) dL_law_8 (fun q_23 H h_22 eh_22 hqq_23 hW hs gq_23 => ?_)
  have hT : hx_T T_tb (L_4 ++ [q_23]) h_22 := by rw [eh_22]; exact hx_T_nw hT hqq_23 tt_126 rfl
  replace po_8 := (hs.o gq_2 trivial rfl).1.trans po_8
  replace po_9 := (hs.o gq_2 trivial rfl).1.trans po_9
  replace po_10 := (hs.o gq_2 trivial rfl).1.trans po_10
  replace po_11 := (hs.o gq_2 trivial rfl).1.trans po_11
  replace po_12 := (hs.o gq_2 trivial rfl).1.trans po_12
  replace fq_17 := (hs.o gq_2 trivial rfl).2.trans fq_17
  replace po_13B := (hs.o gq_17 trivial rfl).1.trans po_13B
  replace po_13 := (hs.o gq_17 trivial rfl).1.trans po_13
  replace fq_18 := (hs.o gq_17 trivial rfl).2.trans fq_18
  replace fq_19 := (hs.o gq_2 trivial rfl).2.trans fq_19
  replace po_14 := (hs.o gq_19 trivial rfl).1.trans po_14
  replace fq_20 := (hs.o gq_2 trivial rfl).2.trans fq_20
  replace fq_21 := (hs.o gq_2 trivial rfl).2.trans fq_21
  replace zq_18 : ∀ j, h_22.2.1 q_18 j = 0 ∧ h_22.2.2 q_18 j = none := fun j => ⟨(hs.a gq_18 rfl j).1.trans (zq_18 j).1, (hs.a gq_18 rfl j).2.trans (zq_18 j).2⟩
  replace po_15 : ∀ j, h_22.2.1 q_20 j = 0 ∧ h_22.2.2 q_20 j = none := fun j => ⟨(hs.a gq_20 rfl j).1.trans (po_15 j).1, (hs.a gq_20 rfl j).2.trans (po_15 j).2⟩
  replace po_16 : ∀ j, h_22.2.1 q_21 j = 0 ∧ h_22.2.2 q_21 j = none := fun j => ⟨(hs.a gq_21 rfl j).1.trans (po_16 j).1, (hs.a gq_21 rfl j).2.trans (po_16 j).2⟩
  replace gq_2 := gq_2.S hs
  replace gq_17 := gq_17.S hs
  replace gq_18 := gq_18.S hs
  replace gq_19 := gq_19.S hs
  replace gq_20 := gq_20.S hs
  replace gq_21 := gq_21.S hs
  have fz_24 : ∀ j, ([] : List Nat).contains j = false → h_22.2.1 q_23 j = 0 ∧ h_22.2.2 q_23 j = none := by rw [eh_22]; exact fun _ _ => ⟨hx_nw_i, hx_nw_r⟩
  refine lv_dup hx hb dL_law_11 rfl ?_
  refine hx_gov (hx_runIX (As := []) (rest := [.ref q_23]) ⟨hx, hb, hml, hown, hts⟩ hW (t_X10_init l dC dI dA (L_4 ++ [q_23]) h_22 H.size b0 q_23 hT gq_23 (fun j => fz_24 j rfl)) hZ (cwI 0 hts (hx_gC kw_1117) rfl rfl rfl (hts _ kw_103) (hts _ kw_1115) (hts _ kw_1116) rfl (by decide +kernel) ⟨Nat.le_of_ble_eq_true rfl, Nat.le_of_ble_eq_true rfl⟩) rfl hl.1 rfl (Nat.le_of_ble_eq_true rfl) dL_law_12 ⟨Nat.le_of_ble_eq_true rfl, Nat.le_of_ble_eq_true rfl⟩) hW (fun L_25 h_26 H locs p_28 hW => ?_)
  have hTo := hT
  obtain ⟨hT, hs, gN, z10_0, z10_1, z10_2, z10_3, z10_4, z10_5, z10_6, z10_7, z10_8, z10_9, z10_10, z10_11, z10_12, k_words, k_rule, k_proofSteps, k_proof, k_tries, k_isDead, k_isJudge, k_found, k_list, k_judged, k_weekly, k_owed, k_doorX, k_doorY, fk_words, gk_words, fk_rule, gk_rule, fk_proofSteps, gk_proofSteps, fk_proof, gk_proof, fk_tries, gk_tries, fk_isDead, gk_isDead, fk_isJudge, gk_isJudge, fk_found, gk_found, fk_list, gk_list, fk_judged, gk_judged, fk_weekly, gk_weekly, fk_owed, gk_owed, fk_doorX, gk_doorX, fk_doorY, gk_doorY, hwd, hwk, hrp, hz_tries, hz_isDead, hz_isJudge, hz_found, hz_list, hz_judged, hz_weekly, hz_owed, hz_doorX, hz_doorY⟩ := p_28
  have hT : hx_T T_tb L_25 h_26 := hT
  have hs : hx_S T_tb [(10, 14), (10, 16), (10, 18), (50, 0), (51, 0), (52, 0), (55, 0), (57, 0), (126, 2), (126, 3), (126, 4), (126, 5), (126, 6), (126, 12), (126, 15), (126, 17), (126, 19), (126, 21), (126, 22), (126, 23), (126, 24), (126, 25), (126, 26), (126, 27), (126, 28), (126, 30), (126, 31), (126, 32), (126, 33), (126, 34), (126, 35), (126, 37), (126, 38), (126, 39), (126, 40), (126, 41), (126, 42), (126, 43), (126, 44), (126, 45), (126, 46), (126, 47), (126, 48), (126, 49), (126, 50), (126, 51), (126, 52), (126, 53), (126, 54), (126, 55), (126, 56), (126, 58), (126, 60), (126, 61), (126, 62), (126, 63), (126, 64), (126, 65), (126, 66), (126, 73), (126, 74), (126, 76), (126, 77), (126, 78), (126, 79), (126, 80), (126, 81), (126, 82), (126, 85), (126, 88), (126, 89), (126, 91), (126, 93), (126, 94), (126, 97)] (hx_X (L_4 ++ [q_23]) q_23) h_22 L_25 h_26 := hs
  have gq_2 := hx_gX gq_2 (gq_2.ne gq_23 (by decide))
  have gq_17 := hx_gX gq_17 (gq_17.ne gq_23 (by decide))
  have gq_18 := hx_gX gq_18 (gq_18.ne gq_23 (by decide))
  have gq_19 := hx_gX gq_19 (gq_19.ne gq_23 (by decide))
  have gq_20 := hx_gX gq_20 (gq_20.ne gq_23 (by decide))
  have gq_21 := hx_gX gq_21 (gq_21.ne gq_23 (by decide))
  replace po_8 := (hs.o gq_2 trivial rfl).1.trans po_8
  replace po_9 := (hs.o gq_2 trivial rfl).1.trans po_9
  replace po_10 := (hs.o gq_2 trivial rfl).1.trans po_10
  replace po_11 := (hs.o gq_2 trivial rfl).1.trans po_11
  replace po_12 := (hs.o gq_2 trivial rfl).1.trans po_12
  replace fq_17 := (hs.o gq_2 trivial rfl).2.trans fq_17
  replace po_13B := (hs.o gq_17 trivial rfl).1.trans po_13B
  replace po_13 := (hs.o gq_17 trivial rfl).1.trans po_13
  replace fq_18 := (hs.o gq_17 trivial rfl).2.trans fq_18
  replace fq_19 := (hs.o gq_2 trivial rfl).2.trans fq_19
  replace po_14 := (hs.o gq_19 trivial rfl).1.trans po_14
  replace fq_20 := (hs.o gq_2 trivial rfl).2.trans fq_20
  replace fq_21 := (hs.o gq_2 trivial rfl).2.trans fq_21
  replace zq_18 : ∀ j, h_26.2.1 q_18 j = 0 ∧ h_26.2.2 q_18 j = none := fun j => ⟨(hs.a gq_18 rfl j).1.trans (zq_18 j).1, (hs.a gq_18 rfl j).2.trans (zq_18 j).2⟩
  replace po_15 : ∀ j, h_26.2.1 q_20 j = 0 ∧ h_26.2.2 q_20 j = none := fun j => ⟨(hs.a gq_20 rfl j).1.trans (po_15 j).1, (hs.a gq_20 rfl j).2.trans (po_15 j).2⟩
  replace po_16 : ∀ j, h_26.2.1 q_21 j = 0 ∧ h_26.2.2 q_21 j = none := fun j => ⟨(hs.a gq_21 rfl j).1.trans (po_16 j).1, (hs.a gq_21 rfl j).2.trans (po_16 j).2⟩
  replace gq_2 := gq_2.S hs
  replace gq_17 := gq_17.S hs
  replace gq_18 := gq_18.S hs
  replace gq_19 := gq_19.S hs
  replace gq_20 := gq_20.S hs
  replace gq_21 := gq_21.S hs
  have gq_23 : hx_g L_25 h_26 q_23 10 := gN
  have z10_0 : h_26.2.1 q_23 0 = 0 := z10_0
  have z10_1 : h_26.2.1 q_23 1 = 0 := z10_1
  have z10_2 : h_26.2.1 q_23 36 = 0 := z10_2
  have z10_3 : h_26.2.1 q_23 57 = 0 := z10_3
  have z10_4 : h_26.2.1 q_23 7 = 0 := z10_4
  have z10_5 : h_26.2.1 q_23 20 = 0 := z10_5
  have z10_6 : h_26.2.1 q_23 29 = 0 := z10_6
  have z10_7 : h_26.2.1 q_23 59 = 0 := z10_7
  have z10_8 : h_26.2.1 q_23 72 = 0 := z10_8
  have z10_9 : h_26.2.1 q_23 83 = 0 := z10_9
  have z10_10 : h_26.2.1 q_23 84 = 0 := z10_10
  have z10_11 : h_26.2.1 q_23 90 = 0 := z10_11
  have z10_12 : h_26.2.1 q_23 92 = 0 := z10_12
  have fk_words : h_26.2.2 q_23 19 = some k_words := fk_words
  have fk_rule : h_26.2.2 q_23 3 = some k_rule := fk_rule
  have fk_proofSteps : h_26.2.2 q_23 4 = some k_proofSteps := fk_proofSteps
  have fk_proof : h_26.2.2 q_23 5 = some k_proof := fk_proof
  have fk_tries : h_26.2.2 q_23 45 = some k_tries := fk_tries
  have fk_isDead : h_26.2.2 q_23 27 = some k_isDead := fk_isDead
  have fk_isJudge : h_26.2.2 q_23 28 = some k_isJudge := fk_isJudge
  have fk_found : h_26.2.2 q_23 46 = some k_found := fk_found
  have fk_list : h_26.2.2 q_23 91 = some k_list := fk_list
  have fk_judged : h_26.2.2 q_23 51 = some k_judged := fk_judged
  have fk_weekly : h_26.2.2 q_23 54 = some k_weekly := fk_weekly
  have fk_owed : h_26.2.2 q_23 55 = some k_owed := fk_owed
  have fk_doorX : h_26.2.2 q_23 24 = some k_doorX := fk_doorX
  have fk_doorY : h_26.2.2 q_23 25 = some k_doorY := fk_doorY
  have hwd : hx_wd (h_26.2.1 k_words) := hwd
  have hwk : hx_WK (h_26.2.1 k_rule) 0 := hwk
  have hrp : hx_RP (h_26.2.1 k_proof) (h_26.2.1 k_proofSteps) 0 := hrp
  have htr : hx_TR (h_26.2.1 k_tries) 0 := fun j _ => by rw [hz_tries j]; decide
  refine lv_astore_n (lv' := [(2, .ref q_23), (1, .ref q_2), (0, .ref b)]) hx hb dL_law_15 rfl hl (by decide) rfl (fun ls hl => ?_)
  refine lv_iconst (v := 0) hx hb dL_law_16 (by decide) ?_
  refine lv_istore_n (lv' := [(3, .int (0 : Int32)), (2, .ref q_23), (1, .ref q_2), (0, .ref b)]) hx hb dL_law_17 rfl hl (by decide) rfl (fun ls hl => ?_)
  have h00 : (0 : Int32).toInt = 0 := by decide
  have hI : hx_IV 0 q_2 q_23 L_25 h_26 := ⟨hT, gq_2, gq_23, ⟨po_8.trans z10_0.symm, po_10.trans z10_5.symm, po_11.trans z10_2.symm, hx_ob fq_19 (po_14.trans z10_6.symm), hx_ob fq_17 (po_13.trans z10_11.symm), hx_ob fq_17 (po_13B.trans z10_12.symm), hx_ob fq_20 (by rw [po_10, h00]; exact hx_num_0 po_15), hx_ob fq_21 (by rw [po_11, h00]; exact hx_num_0 po_16), (fun b a r hb _ _ => by obtain rfl : q_19 = b := Option.some.inj (fq_19.symm.trans hb); exact hx_eqN_z po_14), (fun b a r hb _ _ => by obtain rfl : q_19 = b := Option.some.inj (fq_19.symm.trans hb); exact hx_eqN_z po_14), (fun b a r hb _ _ => by obtain rfl : q_19 = b := Option.some.inj (fq_19.symm.trans hb); exact hx_eqN_z po_14), (fun b a r hb _ _ => by obtain rfl : q_19 = b := Option.some.inj (fq_19.symm.trans hb); exact hx_eqN_z po_14), (fun b a r hb _ _ => by obtain rfl : q_19 = b := Option.some.inj (fq_19.symm.trans hb); exact hx_eqN_z po_14), (fun b a r hb _ _ => by obtain rfl : q_19 = b := Option.some.inj (fq_19.symm.trans hb); exact hy_BD_z po_14), (fun w q c hw hq _ => by obtain rfl : q_17 = w := Option.some.inj (fq_17.symm.trans hw); obtain rfl : q_18 = q := Option.some.inj (fq_18.symm.trans hq); exact hx_LQ_0 zq_18), (fun w q r hw hq hr => by obtain rfl : q_17 = w := Option.some.inj (fq_17.symm.trans hw); obtain rfl : q_18 = q := Option.some.inj (fq_18.symm.trans hq); obtain rfl : k_list = r := Option.some.inj (fk_list.symm.trans hr); exact hx_col_0 zq_18 hz_list), (fun w a r hw _ _ => by obtain rfl : q_17 = w := Option.some.inj (fq_17.symm.trans hw); exact hx_eqN_z po_13B), (fun c q a hc _ _ => by obtain rfl : q_21 = c := Option.some.inj (fq_21.symm.trans hc); exact hw_DF_0 po_16), hx_ob2 fq_20 fk_isDead (hx_col_0 po_15 hz_isDead), hx_ob2 fq_20 fk_isJudge (hx_col_0 po_15 hz_isJudge), hx_ob2 fq_20 fk_doorX (hx_col_0 po_15 hz_doorX), hx_ob2 fq_20 fk_doorY (hx_col_0 po_15 hz_doorY), hx_ob2 fq_21 fk_found (hx_col_0 po_16 hz_found), hx_ob2 fq_21 fk_tries (hx_col_0 po_16 hz_tries), trivial⟩, ⟨fun q _ => hx_pf0 po_9, fun q _ => hx_pf0 po_10, fun q _ => hx_pf0 po_11, fun q _ => hx_pf0 po_12, fun w q hw hq => by obtain rfl : q_17 = w := Option.some.inj (fq_17.symm.trans hw); exact hx_pf0 po_13⟩, ⟨hx_ob fk_words hwd, hx_ob fk_rule (by rw [z10_1, h00]; exact hwk), hx_ob2 fk_proof fk_proofSteps (by rw [z10_1, h00]; exact hrp), fun q _ => by rw [z10_2, z10_1, h00]; exact fun k h0 h1 => by omega, fun q _ => by rw [z10_3, z10_2]; exact hx_hc00, hx_ob fk_tries htr, fun q r _ _ => by rw [z10_2, h00]; exact fun c hc => by exfalso; omega⟩⟩
  refine W.widen (k := 112) (n := 26072) (Nat.le_of_ble_eq_true rfl) (Nat.le_of_ble_eq_true rfl) ?_
  have zi0 : (0 : Int32).toInt = 7 * 0 := by decide
  exact law_loop l hx hb hr hlocks hml hown hts hX hbl hbA hL dC dI dA b0 q_2 q_23 112 26072 (Nat.le_of_ble_eq_true rfl) (Nat.le_of_ble_eq_true rfl) hZ (LN + 1) 0 0 112 26072 L_25 h_26 H locs ls (by omega) zi0 (by omega) (by omega) (by omega) (by omega) hW hI hl
