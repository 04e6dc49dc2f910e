set_option maxHeartbeats 4000000 in
set_option maxRecDepth 100000 in
/-- THE LAW, from its entry -/
theorem whole_start {p : Program} {e : Env} {s : State} {m : MethodId} {below : List Frame} {meth : Method} {c : Code} (l : Launch) (hflags : l.flags = flags0) {b LN : Nat} {xs : Nat → Int32} (hL : LN ≤ 3584) (C0 : lw_At p s m meth c b LN xs) : W p l e room_1 s m #[Value.ref b] below meth c s.heap [] 0 0 (lw_Z below #[Value.ref b] s) (entryFrame m ([Value.ref b] : List Value).toArray 4) := by
  obtain ⟨hx, hb, hr, hml, hown, htl, hX, hbl, hlocks, hgv⟩ := id C0
  have hown : s.vm.findClass "SmallCourtLaw" = some m.cls := hown
  have hts : ∀ w ∈ hx_all, w.before #[Value.ref b] s = true := fun w hw => htl w (hx_sub w hw)
  have hA : ∀ q : Nat, s.heap.size ≤ q → (fun q : Nat => s.heap.size ≤ q) q := fun _ h => h
  have hbA : ¬ s.heap.size ≤ b := Nat.not_le.mpr hbl
  obtain ⟨w0, hz1, hz2, hz3⟩ := hx_wo hgv htl
  obtain ⟨t1, t2, kf, vf, hz4⟩ := hx_xs hgv htl
  obtain ⟨b0, hb0⟩ : ∃ z : hx_z, z = (w0, t1, t2, kf, vf) := ⟨_, rfl⟩
  have hZ : hx_Xt (fun q : Nat => s.heap.size ≤ q) b0 s := by rw [hb0]; exact ⟨hx_nest htl, ⟨va_AO.of (htl _ kw_187), va_AO.of (htl _ kw_189), va_AO.of (htl _ kw_224)⟩, hz1, hz2, hz3, Nat.not_le.mpr hz3, hz4 w0⟩
  obtain ⟨dC, dI, dA, hK⟩ := hx_K0 htl
  have hW : hx_W T_tb (P_ty dA) (dC, dI) vwCl (fun q : Nat => s.heap.size ≤ q) s.heap [] (fun _ => 0, fun _ _ => 0, fun _ _ => none) s s.heap [] := ⟨hK, fun k q h => by simp [hx_p, va_pl] at h, ⟨fun i j p q h => by simp [hx_p, va_pl] at h, fun k q h => by simp [hx_p, va_pl] at h⟩, va_S.rf, hA⟩
  have hT : hx_T T_tb [] (fun _ => 0, fun _ _ => 0, fun _ _ => none) := fun a ha => by cases ha
  have hl := lv_entry ([.ref b]) (n := 4) (Nat.le_of_ble_eq_true rfl)
  rw [lg_entry_eq]
  generalize (lg_sl ([.ref b]) ++ List.replicate (4 - (lg_sl ([.ref b])).length) Slot.unset).toArray = ls at hl ⊢
  have hl : lv_has ls 4 [(0, .ref b)] := hl
  refine hk_new hx hb hts hC_9 hown hW 125 tt_125 rfl (by decide) kw_111 kw_112 kw_94 (Nat.le_of_ble_eq_true rfl) (Nat.le_of_ble_eq_true rfl) dL_law_0 (fun q_2 H h_1 eh_1 hqq_2 hW hs gq_2 => ?_)
  have hT : hx_T T_tb ([] ++ [q_2]) h_1 := by rw [eh_1]; exact hx_T_nw hT hqq_2 tt_125 rfl
  have fz_3 : ∀ j, ([] : List Nat).contains j = false → h_1.2.1 q_2 j = 0 ∧ h_1.2.2 q_2 j = none := by rw [eh_1]; exact fun _ _ => ⟨hx_nw_i, hx_nw_r⟩
  refine lv_dup hx hb dL_law_3 rfl ?_
  refine hx_gov (hx_runIX (As := []) (rest := [.ref q_2]) ⟨hx, hb, hml, hown, hts⟩ hW (t_X9_init_q l dC dI dA ([] ++ [q_2]) h_1 H.size b0 q_2 hT gq_2 (fun j => fz_3 j rfl)) hZ (cwI 0 hts (hx_gC kw_115) rfl rfl rfl (hts _ kw_94) (hts _ kw_113) (hts _ kw_114) rfl (by decide +kernel) ⟨Nat.le_of_ble_eq_true rfl, Nat.le_of_ble_eq_true rfl⟩) rfl hl.1 rfl (Nat.le_of_ble_eq_true rfl) dL_law_4 ⟨Nat.le_of_ble_eq_true rfl, Nat.le_of_ble_eq_true rfl⟩) hW (fun L_4 h_5 H locs p_7 hW => ?_)
  obtain ⟨hT, hs, gNq_2, po_8, po_9, po_10, po_11, po_12, po_13, po_14, po_15, po_16, po_17, po_18, po_19, po_20, po_21, po_22⟩ := p_7
  replace hT : hx_T T_tb L_4 h_5 := hT
  replace hs : hx_S T_tb [(11, 0), (12, 0), (116, 0), (116, 1), (116, 2), (116, 3), (116, 4), (117, 1), (117, 2), (117, 3), (117, 4), (117, 5), (117, 6), (117, 7), (119, 1), (119, 2), (119, 3), (119, 4), (119, 5), (121, 2), (121, 3), (121, 4), (121, 5), (121, 6), (121, 7), (121, 8), (122, 0), (123, 0), (123, 3), (123, 5), (123, 6), (123, 7), (124, 2), (124, 3), (124, 4), (125, 0), (125, 3), (125, 4), (125, 5), (125, 7), (125, 9), (125, 10), (125, 12), (125, 14), (125, 15), (125, 16), (125, 17), (125, 18), (125, 19)] (hx_X ([] ++ [q_2]) q_2) h_1 L_4 h_5 := hs
  have gq_2 : hx_g L_4 h_5 q_2 9 := gNq_2
  have po_8 : h_5.2.1 q_2 2 = 0 := po_8
  have po_9 : h_5.2.1 q_2 6 = 0 := po_9
  have po_10 : h_5.2.1 q_2 8 = 0 := po_10
  have po_11 : h_5.2.1 q_2 11 = 0 := po_11
  have po_12 : h_5.2.1 q_2 13 = 0 := po_12
  obtain ⟨q_23, fq_23, gq_23, po_13⟩ := po_13
  have fq_23 : h_5.2.2 q_2 19 = some q_23 := fq_23
  have gq_23 : hx_g L_4 h_5 q_23 8 := gq_23
  obtain ⟨po_13, po_13B, q_24, fq_24, gq_24, zq_24⟩ := po_13
  have po_13B : h_5.2.1 q_23 1 = 0 := po_13B
  have po_13 : h_5.2.1 q_23 0 = 0 := po_13
  have fq_24 : h_5.2.2 q_23 3 = some q_24 := fq_24
  have gq_24 : hx_g L_4 h_5 q_24 40 := gq_24
  have zq_24 : ∀ j, h_5.2.1 q_24 j = 0 ∧ h_5.2.2 q_24 j = none := zq_24
  obtain ⟨q_25, fq_25, gq_25, po_14⟩ := po_14
  have fq_25 : h_5.2.2 q_2 9 = some q_25 := fq_25
  have gq_25 : hx_g L_4 h_5 q_25 1 := gq_25
  have po_14 : h_5.2.1 q_25 0 = 0 := po_14
  obtain ⟨q_26, fq_26, gq_26, po_15⟩ := po_15
  have fq_26 : h_5.2.2 q_2 7 = some q_26 := fq_26
  have gq_26 : hx_g L_4 h_5 q_26 44 := gq_26
  have po_15 : ∀ j, h_5.2.1 q_26 j = 0 ∧ h_5.2.2 q_26 j = none := po_15
  obtain ⟨q_27, fq_27, gq_27, po_16⟩ := po_16
  have fq_27 : h_5.2.2 q_2 10 = some q_27 := fq_27
  have gq_27 : hx_g L_4 h_5 q_27 45 := gq_27
  have po_16 : ∀ j, h_5.2.1 q_27 j = 0 ∧ h_5.2.2 q_27 j = none := po_16
  have po_17 : h_5.2.1 q_2 1 = 0 := po_17
  obtain ⟨q_28, fq_28, gq_28, po_18⟩ := po_18
  have fq_28 : h_5.2.2 q_2 0 = some q_28 := fq_28
  have gq_28 : hx_g L_4 h_5 q_28 42 := gq_28
  have po_18 : ∀ j, h_5.2.1 q_28 j = 0 ∧ h_5.2.2 q_28 j = none := po_18
  obtain ⟨q_29, fq_29, gq_29, po_19⟩ := po_19
  have fq_29 : h_5.2.2 q_2 4 = some q_29 := fq_29
  have gq_29 : hx_g L_4 h_5 q_29 0 := gq_29
  have po_19 : hv_AQ h_5 q_29 (-1) hv_A0 := po_19
  obtain ⟨q_30, fq_30, gq_30⟩ := hx_rf hT gq_2 tt_9 (k := 5) (u := 43) rfl
  have hRAs : hv_RA h_5 q_30 q_29 0 (fun _ => hv_A0) := ⟨po_19, fun j hj => absurd hj (by omega)⟩
  obtain ⟨q_31, fq_31, gq_31, po_20⟩ := po_20
  have fq_31 : h_5.2.2 q_2 14 = some q_31 := fq_31
  have gq_31 : hx_g L_4 h_5 q_31 3 := gq_31
  obtain ⟨po_20, q_32, fq_32, gq_32, zq_32, q_33, fq_33, gq_33, zq_33, q_34, fq_34, gq_34, zq_34, q_35, fq_35, gq_35, zq_35, q_36, fq_36, gq_36, zq_36⟩ := po_20
  have po_20 : h_5.2.1 q_31 0 = 0 := po_20
  have fq_32 : h_5.2.2 q_31 2 = some q_32 := fq_32; have gq_32 : hx_g L_4 h_5 q_32 23 := gq_32; have zq_32 : ∀ j, h_5.2.1 q_32 j = 0 ∧ h_5.2.2 q_32 j = none := zq_32
  have fq_33 : h_5.2.2 q_31 3 = some q_33 := fq_33; have gq_33 : hx_g L_4 h_5 q_33 24 := gq_33; have zq_33 : ∀ j, h_5.2.1 q_33 j = 0 ∧ h_5.2.2 q_33 j = none := zq_33
  have fq_34 : h_5.2.2 q_31 5 = some q_34 := fq_34; have gq_34 : hx_g L_4 h_5 q_34 26 := gq_34; have zq_34 : ∀ j, h_5.2.1 q_34 j = 0 ∧ h_5.2.2 q_34 j = none := zq_34
  have fq_35 : h_5.2.2 q_31 4 = some q_35 := fq_35; have gq_35 : hx_g L_4 h_5 q_35 25 := gq_35; have zq_35 : ∀ j, h_5.2.1 q_35 j = 0 ∧ h_5.2.2 q_35 j = none := zq_35
  have fq_36 : h_5.2.2 q_31 1 = some q_36 := fq_36; have gq_36 : hx_g L_4 h_5 q_36 22 := gq_36; have zq_36 : ∀ j, h_5.2.1 q_36 j = 0 ∧ h_5.2.2 q_36 j = none := zq_36
  obtain ⟨q_37, fq_37, gq_37, po_21⟩ := po_21
  have fq_37 : h_5.2.2 q_2 18 = some q_37 := fq_37
  have gq_37 : hx_g L_4 h_5 q_37 7 := gq_37
  have po_21 : h_5.2.1 q_37 0 = -1 := po_21
  obtain ⟨q_38, fq_38, gq_38, po_22⟩ := po_22
  have fq_38 : h_5.2.2 q_2 17 = some q_38 := fq_38
  have gq_38 : hx_g L_4 h_5 q_38 5 := gq_38
  have po_22 : h_5.2.1 q_38 1 = 0 := po_22.1
  refine lv_astore_n (lv' := [(1, .ref q_2), (0, .ref b)]) hx hb dL_law_7 rfl hl (by decide) rfl (fun ls hl => ?_)
  have hTo := hT
  refine hk_new hx hb hts hC_10 hown hW 126 tt_126 rfl (by decide) kw_1113 kw_1114 kw_103 (Nat.le_of_ble_eq_true rfl) (Nat.le_of_ble_eq_true rfl) dL_law_8 (fun q_40 H h_39 eh_39 hqq_40 hW hs gq_40 => ?_)
  have hT : hx_T T_tb (L_4 ++ [q_40]) h_39 := by rw [eh_39]; exact hx_T_nw hT hqq_40 tt_126 rfl
  replace po_8 := (hs.o gq_2 trivial rfl).1.trans po_8
  replace po_9 := (hs.o gq_2 trivial rfl).1.trans po_9
  replace po_10 := (hs.o gq_2 trivial rfl).1.trans po_10
  replace po_11 := (hs.o gq_2 trivial rfl).1.trans po_11
  replace po_12 := (hs.o gq_2 trivial rfl).1.trans po_12
  replace fq_23 := (hs.o gq_2 trivial rfl).2.trans fq_23
  replace po_13B := (hs.o gq_23 trivial rfl).1.trans po_13B
  replace po_13 := (hs.o gq_23 trivial rfl).1.trans po_13
  replace fq_24 := (hs.o gq_23 trivial rfl).2.trans fq_24
  replace fq_25 := (hs.o gq_2 trivial rfl).2.trans fq_25
  replace po_14 := (hs.o gq_25 trivial rfl).1.trans po_14
  replace fq_26 := (hs.o gq_2 trivial rfl).2.trans fq_26
  replace fq_27 := (hs.o gq_2 trivial rfl).2.trans fq_27
  replace po_17 := (hs.o gq_2 trivial rfl).1.trans po_17
  replace fq_28 := (hs.o gq_2 trivial rfl).2.trans fq_28
  replace fq_29 := (hs.o gq_2 trivial rfl).2.trans fq_29
  replace fq_30 := (hs.o gq_2 trivial rfl).2.trans fq_30
  replace fq_31 := (hs.o gq_2 trivial rfl).2.trans fq_31
  replace po_20 := (hs.o gq_31 trivial rfl).1.trans po_20
  replace fq_32 := (hs.o gq_31 trivial rfl).2.trans fq_32
  replace fq_33 := (hs.o gq_31 trivial rfl).2.trans fq_33
  replace fq_34 := (hs.o gq_31 trivial rfl).2.trans fq_34
  replace fq_35 := (hs.o gq_31 trivial rfl).2.trans fq_35
  replace fq_36 := (hs.o gq_31 trivial rfl).2.trans fq_36
  replace fq_37 := (hs.o gq_2 trivial rfl).2.trans fq_37
  replace po_21 := (hs.o gq_37 trivial rfl).1.trans po_21
  replace fq_38 := (hs.o gq_2 trivial rfl).2.trans fq_38
  replace po_22 := (hs.o gq_38 trivial rfl).1.trans po_22
  replace hRAs : hv_RA h_39 q_30 q_29 0 (fun _ => hv_A0) := hv_RA_S hs hTo gq_30 gq_29 tt_43 tt_0 rfl rfl rfl rfl rfl rfl (by decide) hRAs
  replace zq_24 : ∀ j, h_39.2.1 q_24 j = 0 ∧ h_39.2.2 q_24 j = none := fun j => ⟨(hs.a gq_24 rfl j).1.trans (zq_24 j).1, (hs.a gq_24 rfl j).2.trans (zq_24 j).2⟩
  replace po_15 : ∀ j, h_39.2.1 q_26 j = 0 ∧ h_39.2.2 q_26 j = none := fun j => ⟨(hs.a gq_26 rfl j).1.trans (po_15 j).1, (hs.a gq_26 rfl j).2.trans (po_15 j).2⟩
  replace po_16 : ∀ j, h_39.2.1 q_27 j = 0 ∧ h_39.2.2 q_27 j = none := fun j => ⟨(hs.a gq_27 rfl j).1.trans (po_16 j).1, (hs.a gq_27 rfl j).2.trans (po_16 j).2⟩
  replace po_18 : ∀ j, h_39.2.1 q_28 j = 0 ∧ h_39.2.2 q_28 j = none := fun j => ⟨(hs.a gq_28 rfl j).1.trans (po_18 j).1, (hs.a gq_28 rfl j).2.trans (po_18 j).2⟩
  replace zq_32 : ∀ j, h_39.2.1 q_32 j = 0 ∧ h_39.2.2 q_32 j = none := fun j => ⟨(hs.a gq_32 rfl j).1.trans (zq_32 j).1, (hs.a gq_32 rfl j).2.trans (zq_32 j).2⟩
  replace zq_33 : ∀ j, h_39.2.1 q_33 j = 0 ∧ h_39.2.2 q_33 j = none := fun j => ⟨(hs.a gq_33 rfl j).1.trans (zq_33 j).1, (hs.a gq_33 rfl j).2.trans (zq_33 j).2⟩
  replace zq_34 : ∀ j, h_39.2.1 q_34 j = 0 ∧ h_39.2.2 q_34 j = none := fun j => ⟨(hs.a gq_34 rfl j).1.trans (zq_34 j).1, (hs.a gq_34 rfl j).2.trans (zq_34 j).2⟩
  replace zq_35 : ∀ j, h_39.2.1 q_35 j = 0 ∧ h_39.2.2 q_35 j = none := fun j => ⟨(hs.a gq_35 rfl j).1.trans (zq_35 j).1, (hs.a gq_35 rfl j).2.trans (zq_35 j).2⟩
  replace zq_36 : ∀ j, h_39.2.1 q_36 j = 0 ∧ h_39.2.2 q_36 j = none := fun j => ⟨(hs.a gq_36 rfl j).1.trans (zq_36 j).1, (hs.a gq_36 rfl j).2.trans (zq_36 j).2⟩
  replace gq_2 := gq_2.S hs
  replace gq_23 := gq_23.S hs
  replace gq_24 := gq_24.S hs
  replace gq_25 := gq_25.S hs
  replace gq_26 := gq_26.S hs
  replace gq_27 := gq_27.S hs
  replace gq_28 := gq_28.S hs
  replace gq_29 := gq_29.S hs
  replace gq_30 := gq_30.S hs
  replace gq_31 := gq_31.S hs
  replace gq_32 := gq_32.S hs
  replace gq_33 := gq_33.S hs
  replace gq_34 := gq_34.S hs
  replace gq_35 := gq_35.S hs
  replace gq_36 := gq_36.S hs
  replace gq_37 := gq_37.S hs
  replace gq_38 := gq_38.S hs
  have fz_41 : ∀ j, ([] : List Nat).contains j = false → h_39.2.1 q_40 j = 0 ∧ h_39.2.2 q_40 j = none := by rw [eh_39]; exact fun _ _ => ⟨hx_nw_i, hx_nw_r⟩
  refine lv_dup hx hb dL_law_11 rfl ?_
  have hTo := hT
  refine hx_gov (hx_runIX (As := []) (rest := [.ref q_40]) ⟨hx, hb, hml, hown, hts⟩ hW (t_X10_init l dC dI dA (L_4 ++ [q_40]) h_39 H.size b0 q_40 hT gq_40 (fun j => fz_41 j rfl)) hZ (cwI 0 hts (hx_gC kw_1117) rfl rfl rfl (hts _ kw_103) (hts _ kw_1115) (hts _ kw_1116) rfl (by decide +kernel) ⟨Nat.le_of_ble_eq_true rfl, Nat.le_of_ble_eq_true rfl⟩) rfl hl.1 rfl (Nat.le_of_ble_eq_true rfl) dL_law_12 ⟨Nat.le_of_ble_eq_true rfl, Nat.le_of_ble_eq_true rfl⟩) hW (fun L_42 h_43 H locs p_45 hW => ?_)
  have hTo := hT
  obtain ⟨hT, hs, gN, z10_0, z10_1, z10_2, z10_3, z10_4, z10_5, z10_6, z10_7, z10_8, z10_9, z10_10, z10_11, z10_12, k_words, k_rule, k_proofSteps, k_proof, k_tries, k_isDead, k_isJudge, k_found, k_list, k_judged, k_weekly, k_owed, k_doorX, k_doorY, k_tape, k_born, k_kin, k_sum, k_filed, k_owedFrom, k_heard, k_ordered, k_goods, k_seized, k_served, k_earns, k_heads, k_payOf, k_payDay, k_paySum, k_payKnown, k_payStruck, k_actDay, fk_words, gk_words, fk_rule, gk_rule, fk_proofSteps, gk_proofSteps, fk_proof, gk_proof, fk_tries, gk_tries, fk_isDead, gk_isDead, fk_isJudge, gk_isJudge, fk_found, gk_found, fk_list, gk_list, fk_judged, gk_judged, fk_weekly, gk_weekly, fk_owed, gk_owed, fk_doorX, gk_doorX, fk_doorY, gk_doorY, fk_tape, gk_tape, fk_born, gk_born, fk_kin, gk_kin, fk_sum, gk_sum, fk_filed, gk_filed, fk_owedFrom, gk_owedFrom, fk_heard, gk_heard, fk_ordered, gk_ordered, fk_goods, gk_goods, fk_seized, gk_seized, fk_served, gk_served, fk_earns, gk_earns, fk_heads, gk_heads, fk_payOf, gk_payOf, fk_payDay, gk_payDay, fk_paySum, gk_paySum, fk_payKnown, gk_payKnown, fk_payStruck, gk_payStruck, fk_actDay, gk_actDay, hwd, hwk, hrp, hz_tries, hz_isDead, hz_isJudge, hz_found, hz_list, hz_judged, hz_weekly, hz_owed, hz_doorX, hz_doorY, hz_tape, hz_born, hz_kin, hz_sum, hz_filed, hz_owedFrom, hz_heard, hz_ordered, hz_goods, hz_seized, hz_served, hz_earns, hz_heads, hz_payOf, hz_payDay, hz_paySum, hz_payKnown, hz_payStruck, hca⟩ := p_45
  have hT : hx_T T_tb L_42 h_43 := hT
  have hs : hx_S T_tb [(10, 14), (10, 16), (10, 18), (50, 0), (51, 0), (52, 0), (55, 0), (57, 0), (126, 2), (126, 3), (126, 4), (126, 5), (126, 6), (126, 12), (126, 15), (126, 17), (126, 19), (126, 21), (126, 22), (126, 23), (126, 24), (126, 25), (126, 26), (126, 27), (126, 28), (126, 30), (126, 31), (126, 32), (126, 33), (126, 34), (126, 35), (126, 37), (126, 38), (126, 39), (126, 40), (126, 41), (126, 42), (126, 43), (126, 44), (126, 45), (126, 46), (126, 47), (126, 48), (126, 49), (126, 50), (126, 51), (126, 52), (126, 53), (126, 54), (126, 55), (126, 56), (126, 58), (126, 60), (126, 61), (126, 62), (126, 63), (126, 64), (126, 65), (126, 66), (126, 73), (126, 74), (126, 76), (126, 77), (126, 78), (126, 79), (126, 80), (126, 81), (126, 82), (126, 85), (126, 88), (126, 89), (126, 91), (126, 93), (126, 94), (126, 97)] (hx_X (L_4 ++ [q_40]) q_40) h_39 L_42 h_43 := hs
  have gq_2 := hx_gX gq_2 (gq_2.ne gq_40 (by decide))
  have gq_23 := hx_gX gq_23 (gq_23.ne gq_40 (by decide))
  have gq_24 := hx_gX gq_24 (gq_24.ne gq_40 (by decide))
  have gq_25 := hx_gX gq_25 (gq_25.ne gq_40 (by decide))
  have gq_26 := hx_gX gq_26 (gq_26.ne gq_40 (by decide))
  have gq_27 := hx_gX gq_27 (gq_27.ne gq_40 (by decide))
  have gq_28 := hx_gX gq_28 (gq_28.ne gq_40 (by decide))
  have gq_29 := hx_gX gq_29 (gq_29.ne gq_40 (by decide))
  have gq_30 := hx_gX gq_30 (gq_30.ne gq_40 (by decide))
  have gq_31 := hx_gX gq_31 (gq_31.ne gq_40 (by decide))
  have gq_32 := hx_gX gq_32 (gq_32.ne gq_40 (by decide))
  have gq_33 := hx_gX gq_33 (gq_33.ne gq_40 (by decide))
  have gq_34 := hx_gX gq_34 (gq_34.ne gq_40 (by decide))
  have gq_35 := hx_gX gq_35 (gq_35.ne gq_40 (by decide))
  have gq_36 := hx_gX gq_36 (gq_36.ne gq_40 (by decide))
  have gq_37 := hx_gX gq_37 (gq_37.ne gq_40 (by decide))
  have gq_38 := hx_gX gq_38 (gq_38.ne gq_40 (by decide))
  replace po_8 := (hs.o gq_2 trivial rfl).1.trans po_8
  replace po_9 := (hs.o gq_2 trivial rfl).1.trans po_9
  replace po_10 := (hs.o gq_2 trivial rfl).1.trans po_10
  replace po_11 := (hs.o gq_2 trivial rfl).1.trans po_11
  replace po_12 := (hs.o gq_2 trivial rfl).1.trans po_12
  replace fq_23 := (hs.o gq_2 trivial rfl).2.trans fq_23
  replace po_13B := (hs.o gq_23 trivial rfl).1.trans po_13B
  replace po_13 := (hs.o gq_23 trivial rfl).1.trans po_13
  replace fq_24 := (hs.o gq_23 trivial rfl).2.trans fq_24
  replace fq_25 := (hs.o gq_2 trivial rfl).2.trans fq_25
  replace po_14 := (hs.o gq_25 trivial rfl).1.trans po_14
  replace fq_26 := (hs.o gq_2 trivial rfl).2.trans fq_26
  replace fq_27 := (hs.o gq_2 trivial rfl).2.trans fq_27
  replace po_17 := (hs.o gq_2 trivial rfl).1.trans po_17
  replace fq_28 := (hs.o gq_2 trivial rfl).2.trans fq_28
  replace fq_29 := (hs.o gq_2 trivial rfl).2.trans fq_29
  replace fq_30 := (hs.o gq_2 trivial rfl).2.trans fq_30
  replace fq_31 := (hs.o gq_2 trivial rfl).2.trans fq_31
  replace po_20 := (hs.o gq_31 trivial rfl).1.trans po_20
  replace fq_32 := (hs.o gq_31 trivial rfl).2.trans fq_32
  replace fq_33 := (hs.o gq_31 trivial rfl).2.trans fq_33
  replace fq_34 := (hs.o gq_31 trivial rfl).2.trans fq_34
  replace fq_35 := (hs.o gq_31 trivial rfl).2.trans fq_35
  replace fq_36 := (hs.o gq_31 trivial rfl).2.trans fq_36
  replace fq_37 := (hs.o gq_2 trivial rfl).2.trans fq_37
  replace po_21 := (hs.o gq_37 trivial rfl).1.trans po_21
  replace fq_38 := (hs.o gq_2 trivial rfl).2.trans fq_38
  replace po_22 := (hs.o gq_38 trivial rfl).1.trans po_22
  replace hRAs : hv_RA h_43 q_30 q_29 0 (fun _ => hv_A0) := hv_RA_X hs hTo gq_30 gq_29 gq_40 tt_43 tt_0 rfl rfl rfl rfl rfl rfl (by decide) (by decide) hRAs
  replace zq_24 : ∀ j, h_43.2.1 q_24 j = 0 ∧ h_43.2.2 q_24 j = none := fun j => ⟨(hs.a gq_24 rfl j).1.trans (zq_24 j).1, (hs.a gq_24 rfl j).2.trans (zq_24 j).2⟩
  replace po_15 : ∀ j, h_43.2.1 q_26 j = 0 ∧ h_43.2.2 q_26 j = none := fun j => ⟨(hs.a gq_26 rfl j).1.trans (po_15 j).1, (hs.a gq_26 rfl j).2.trans (po_15 j).2⟩
  replace po_16 : ∀ j, h_43.2.1 q_27 j = 0 ∧ h_43.2.2 q_27 j = none := fun j => ⟨(hs.a gq_27 rfl j).1.trans (po_16 j).1, (hs.a gq_27 rfl j).2.trans (po_16 j).2⟩
  replace po_18 : ∀ j, h_43.2.1 q_28 j = 0 ∧ h_43.2.2 q_28 j = none := fun j => ⟨(hs.a gq_28 rfl j).1.trans (po_18 j).1, (hs.a gq_28 rfl j).2.trans (po_18 j).2⟩
  replace zq_32 : ∀ j, h_43.2.1 q_32 j = 0 ∧ h_43.2.2 q_32 j = none := fun j => ⟨(hs.a gq_32 rfl j).1.trans (zq_32 j).1, (hs.a gq_32 rfl j).2.trans (zq_32 j).2⟩
  replace zq_33 : ∀ j, h_43.2.1 q_33 j = 0 ∧ h_43.2.2 q_33 j = none := fun j => ⟨(hs.a gq_33 rfl j).1.trans (zq_33 j).1, (hs.a gq_33 rfl j).2.trans (zq_33 j).2⟩
  replace zq_34 : ∀ j, h_43.2.1 q_34 j = 0 ∧ h_43.2.2 q_34 j = none := fun j => ⟨(hs.a gq_34 rfl j).1.trans (zq_34 j).1, (hs.a gq_34 rfl j).2.trans (zq_34 j).2⟩
  replace zq_35 : ∀ j, h_43.2.1 q_35 j = 0 ∧ h_43.2.2 q_35 j = none := fun j => ⟨(hs.a gq_35 rfl j).1.trans (zq_35 j).1, (hs.a gq_35 rfl j).2.trans (zq_35 j).2⟩
  replace zq_36 : ∀ j, h_43.2.1 q_36 j = 0 ∧ h_43.2.2 q_36 j = none := fun j => ⟨(hs.a gq_36 rfl j).1.trans (zq_36 j).1, (hs.a gq_36 rfl j).2.trans (zq_36 j).2⟩
  replace gq_2 := gq_2.S hs
  replace gq_23 := gq_23.S hs
  replace gq_24 := gq_24.S hs
  replace gq_25 := gq_25.S hs
  replace gq_26 := gq_26.S hs
  replace gq_27 := gq_27.S hs
  replace gq_28 := gq_28.S hs
  replace gq_29 := gq_29.S hs
  replace gq_30 := gq_30.S hs
  replace gq_31 := gq_31.S hs
  replace gq_32 := gq_32.S hs
  replace gq_33 := gq_33.S hs
  replace gq_34 := gq_34.S hs
  replace gq_35 := gq_35.S hs
  replace gq_36 := gq_36.S hs
  replace gq_37 := gq_37.S hs
  replace gq_38 := gq_38.S hs
  have gq_40 : hx_g L_42 h_43 q_40 10 := gN
  have z10_0 : h_43.2.1 q_40 0 = 0 := z10_0
  have z10_1 : h_43.2.1 q_40 1 = 0 := z10_1
  have z10_2 : h_43.2.1 q_40 36 = 0 := z10_2
  have z10_3 : h_43.2.1 q_40 57 = 0 := z10_3
  have z10_4 : h_43.2.1 q_40 7 = 0 := z10_4
  have z10_5 : h_43.2.1 q_40 20 = 0 := z10_5
  have z10_6 : h_43.2.1 q_40 29 = 0 := z10_6
  have z10_7 : h_43.2.1 q_40 59 = 0 := z10_7
  have z10_8 : h_43.2.1 q_40 72 = 0 := z10_8
  have z10_9 : h_43.2.1 q_40 83 = 0 := z10_9
  have z10_10 : h_43.2.1 q_40 84 = 0 := z10_10
  have z10_11 : h_43.2.1 q_40 90 = 0 := z10_11
  have z10_12 : h_43.2.1 q_40 92 = 0 := z10_12
  have fk_words : h_43.2.2 q_40 19 = some k_words := fk_words
  have fk_rule : h_43.2.2 q_40 3 = some k_rule := fk_rule
  have fk_proofSteps : h_43.2.2 q_40 4 = some k_proofSteps := fk_proofSteps
  have fk_proof : h_43.2.2 q_40 5 = some k_proof := fk_proof
  have fk_tries : h_43.2.2 q_40 45 = some k_tries := fk_tries
  have fk_isDead : h_43.2.2 q_40 27 = some k_isDead := fk_isDead
  have fk_isJudge : h_43.2.2 q_40 28 = some k_isJudge := fk_isJudge
  have fk_found : h_43.2.2 q_40 46 = some k_found := fk_found
  have fk_list : h_43.2.2 q_40 91 = some k_list := fk_list
  have fk_judged : h_43.2.2 q_40 51 = some k_judged := fk_judged
  have fk_weekly : h_43.2.2 q_40 54 = some k_weekly := fk_weekly
  have fk_owed : h_43.2.2 q_40 55 = some k_owed := fk_owed
  have fk_doorX : h_43.2.2 q_40 24 = some k_doorX := fk_doorX
  have fk_doorY : h_43.2.2 q_40 25 = some k_doorY := fk_doorY
  have fk_tape : h_43.2.2 q_40 6 = some k_tape := fk_tape
  have fk_born : h_43.2.2 q_40 21 = some k_born := fk_born
  have fk_kin : h_43.2.2 q_40 26 = some k_kin := fk_kin
  have fk_sum : h_43.2.2 q_40 39 = some k_sum := fk_sum
  have fk_filed : h_43.2.2 q_40 43 = some k_filed := fk_filed
  have fk_owedFrom : h_43.2.2 q_40 40 = some k_owedFrom := fk_owedFrom
  have fk_heard : h_43.2.2 q_40 47 = some k_heard := fk_heard
  have fk_ordered : h_43.2.2 q_40 48 = some k_ordered := fk_ordered
  have fk_goods : h_43.2.2 q_40 56 = some k_goods := fk_goods
  have fk_seized : h_43.2.2 q_40 49 = some k_seized := fk_seized
  have fk_served : h_43.2.2 q_40 50 = some k_served := fk_served
  have fk_earns : h_43.2.2 q_40 22 = some k_earns := fk_earns
  have fk_heads : h_43.2.2 q_40 23 = some k_heads := fk_heads
  have fk_payOf : h_43.2.2 q_40 60 = some k_payOf := fk_payOf
  have fk_payDay : h_43.2.2 q_40 61 = some k_payDay := fk_payDay
  have fk_paySum : h_43.2.2 q_40 62 = some k_paySum := fk_paySum
  have fk_payKnown : h_43.2.2 q_40 63 = some k_payKnown := fk_payKnown
  have fk_payStruck : h_43.2.2 q_40 64 = some k_payStruck := fk_payStruck
  have fk_actDay : h_43.2.2 q_40 2 = some k_actDay := fk_actDay
  have hwd : hx_wd (h_43.2.1 k_words) := hwd
  have hwk : hx_WK (h_43.2.1 k_rule) 0 := hwk
  have hrp : hx_RP (h_43.2.1 k_proof) (h_43.2.1 k_proofSteps) 0 := hrp
  have htr : hx_TR (h_43.2.1 k_tries) 0 := fun j _ => by rw [hz_tries j]; decide
  have hca : hv_CA (h_43.2.1 k_actDay) (h_43.2.1 k_rule) (h_43.2.1 k_proofSteps) (h_43.2.1 k_proof) 0 (fun _ => hv_A0) := hca
  refine lv_astore_n (lv' := [(2, .ref q_40), (1, .ref q_2), (0, .ref b)]) hx hb dL_law_15 rfl hl (by decide) rfl (fun ls hl => ?_)
  refine lv_iconst (v := 0) hx hb dL_law_16 (by decide) ?_
  refine lv_istore_n (lv' := [(3, .int (0 : Int32)), (2, .ref q_40), (1, .ref q_2), (0, .ref b)]) hx hb dL_law_17 rfl hl (by decide) rfl (fun ls hl => ?_)
  have h00 : (0 : Int32).toInt = 0 := by decide
  have hI : hx_IV 0 q_2 q_40 L_42 h_43 := ⟨hT, gq_2, gq_40, ⟨po_8.trans z10_0.symm, po_10.trans z10_5.symm, po_11.trans z10_2.symm, po_17.trans z10_4.symm, po_9.trans z10_1.symm, po_12.trans z10_3.symm, hx_ob fq_25 (po_14.trans z10_6.symm), hx_ob fq_23 (po_13.trans z10_11.symm), hx_ob fq_23 (po_13B.trans z10_12.symm), hx_ob fq_31 (po_20.trans z10_7.symm), hx_ob fq_38 (po_22.trans z10_8.symm), hx_ob fq_26 (by rw [po_10, h00]; exact hx_num_0 po_15), hx_ob fq_27 (by rw [po_11, h00]; exact hx_num_0 po_16), (fun b a r hb _ _ => by obtain rfl : q_25 = b := Option.some.inj (fq_25.symm.trans hb); exact hx_eqN_z po_14), (fun b a r hb _ _ => by obtain rfl : q_25 = b := Option.some.inj (fq_25.symm.trans hb); exact hx_eqN_z po_14), (fun b a r hb _ _ => by obtain rfl : q_25 = b := Option.some.inj (fq_25.symm.trans hb); exact hx_eqN_z po_14), (fun b a r hb _ _ => by obtain rfl : q_25 = b := Option.some.inj (fq_25.symm.trans hb); exact hx_eqN_z po_14), (fun b a r hb _ _ => by obtain rfl : q_25 = b := Option.some.inj (fq_25.symm.trans hb); exact hx_eqN_z po_14), (fun b a r hb _ _ => by obtain rfl : q_25 = b := Option.some.inj (fq_25.symm.trans hb); exact hy_BD_z po_14), (fun w q c hw hq _ => by obtain rfl : q_23 = w := Option.some.inj (fq_23.symm.trans hw); obtain rfl : q_24 = q := Option.some.inj (fq_24.symm.trans hq); exact hx_LQ_0 zq_24), (fun w q r hw hq hr => by obtain rfl : q_23 = w := Option.some.inj (fq_23.symm.trans hw); obtain rfl : q_24 = q := Option.some.inj (fq_24.symm.trans hq); obtain rfl : k_list = r := Option.some.inj (fk_list.symm.trans hr); exact hx_col_0 zq_24 hz_list), (fun w a r hw _ _ => by obtain rfl : q_23 = w := Option.some.inj (fq_23.symm.trans hw); exact hx_eqN_z po_13B), (fun c q a hc _ _ => by obtain rfl : q_27 = c := Option.some.inj (fq_27.symm.trans hc); exact hw_DF_0 po_16), (fun q r hq hr => by obtain rfl : q_28 = q := Option.some.inj (fq_28.symm.trans hq); obtain rfl : k_tape = r := Option.some.inj (fk_tape.symm.trans hr); funext j; rw [(po_18 j).1, hz_tape j]), (fun q w a b c d e p hq hw ha hb hc hd he hp => by obtain rfl : q_30 = q := Option.some.inj (fq_30.symm.trans hq); obtain rfl : q_29 = w := Option.some.inj (fq_29.symm.trans hw); obtain rfl : k_actDay = a := Option.some.inj (fk_actDay.symm.trans ha); obtain rfl : k_rule = b := Option.some.inj (fk_rule.symm.trans hb); obtain rfl : k_proofSteps = c := Option.some.inj (fk_proofSteps.symm.trans hc); obtain rfl : k_proof = d := Option.some.inj (fk_proof.symm.trans hd); obtain rfl : q_27 = e := Option.some.inj (fq_27.symm.trans he); exact ⟨_, by rw [po_9, h00]; exact hRAs, by rw [po_9, h00]; exact hca, hv_AC_0 po_16, hv_AB_0⟩), (fun c q a hc _ _ => by obtain rfl : q_27 = c := Option.some.inj (fq_27.symm.trans hc); exact hw_DF_0 po_16), (fun q c a _ _ _ => hv_HL_0 (by rw [po_12]; exact h00)), (fun a b _ _ => hv_HO_0 (by rw [z10_3]; exact h00)), (fun c a b d e f hc _ _ _ _ _ => by obtain rfl : q_27 = c := Option.some.inj (fq_27.symm.trans hc); exact ⟨fun _ => 0, hv_FX_0 po_16, fun j hj => by rw [po_11, h00] at hj; exfalso; omega⟩), (fun c a hc _ => by obtain rfl : q_27 = c := Option.some.inj (fq_27.symm.trans hc); exact hv_FX_0 po_16), hx_ob2 fq_26 fk_born (hx_col_0f po_15 hz_born), hx_ob2 fq_26 fk_kin (hx_col_0f po_15 hz_kin), hx_ob2 fq_27 fk_sum (hx_col_0f po_16 hz_sum), hx_ob2 fq_27 fk_owedFrom (hx_col_0f po_16 hz_owedFrom), hx_ob2 fq_27 fk_filed (hx_col_0f po_16 hz_filed), hx_ob2 fq_27 fk_heard (hx_col_0f po_16 hz_heard), hx_ob2 fq_27 fk_judged (hx_col_0f po_16 hz_judged), hx_ob2 fq_26 fk_earns (hx_col_0f po_15 hz_earns), hx_ob2 fq_26 fk_heads (hx_col_0f po_15 hz_heads), hx_ob2 fq_27 fk_ordered (hx_col_0f po_16 hz_ordered), hx_ob2 fq_27 fk_weekly (hx_col_0f po_16 hz_weekly), hx_ob2 fq_27 fk_owed (hx_col_0f po_16 hz_owed), hx_ob2 fq_27 fk_goods (hx_col_0f po_16 hz_goods), hx_ob2 fq_27 fk_seized (hx_col_0f po_16 hz_seized), hx_ob2 fq_27 fk_served (hx_col_0f po_16 hz_served), (fun p q r hp hq hr => by obtain rfl : q_31 = p := Option.some.inj (fq_31.symm.trans hp); obtain rfl : q_32 = q := Option.some.inj (fq_32.symm.trans hq); obtain rfl : k_payOf = r := Option.some.inj (fk_payOf.symm.trans hr); funext j; rw [(zq_32 j).1, hz_payOf j]), (fun p q r hp hq hr => by obtain rfl : q_31 = p := Option.some.inj (fq_31.symm.trans hp); obtain rfl : q_33 = q := Option.some.inj (fq_33.symm.trans hq); obtain rfl : k_payDay = r := Option.some.inj (fk_payDay.symm.trans hr); funext j; rw [(zq_33 j).1, hz_payDay j]), (fun p q r hp hq hr => by obtain rfl : q_31 = p := Option.some.inj (fq_31.symm.trans hp); obtain rfl : q_34 = q := Option.some.inj (fq_34.symm.trans hq); obtain rfl : k_paySum = r := Option.some.inj (fk_paySum.symm.trans hr); funext j; rw [(zq_34 j).1, hz_paySum j]), (fun p q r hp hq hr => by obtain rfl : q_31 = p := Option.some.inj (fq_31.symm.trans hp); obtain rfl : q_35 = q := Option.some.inj (fq_35.symm.trans hq); obtain rfl : k_payKnown = r := Option.some.inj (fk_payKnown.symm.trans hr); funext j; rw [(zq_35 j).1, hz_payKnown j]), (fun p q r hp hq hr => by obtain rfl : q_31 = p := Option.some.inj (fq_31.symm.trans hp); obtain rfl : q_36 = q := Option.some.inj (fq_36.symm.trans hq); obtain rfl : k_payStruck = r := Option.some.inj (fk_payStruck.symm.trans hr); funext j; rw [(zq_36 j).1, hz_payStruck j]), (fun p hp => by obtain rfl : q_37 = p := Option.some.inj (fq_37.symm.trans hp); exact Or.inl ⟨by rw [z10_9]; exact h00, by rw [po_21]; decide⟩), (fun p q r hp hq hr j hj => by obtain rfl : q_37 = p := Option.some.inj (fq_37.symm.trans hp); rw [po_21] at hj; exfalso; have hm1 : (-1 : Int32).toInt = -1 := (by decide); omega), (fun p a b c d e f hp _ _ _ _ _ _ => by obtain rfl : q_38 = p := Option.some.inj (fq_38.symm.trans hp); exact fun j hj => by rw [po_22, h00] at hj; exfalso; omega), hx_ob2 fq_26 fk_isDead (hx_col_0 po_15 hz_isDead), hx_ob2 fq_26 fk_isJudge (hx_col_0 po_15 hz_isJudge), hx_ob2 fq_26 fk_doorX (hx_col_0 po_15 hz_doorX), hx_ob2 fq_26 fk_doorY (hx_col_0 po_15 hz_doorY), hx_ob2 fq_27 fk_found (hx_col_0 po_16 hz_found), hx_ob2 fq_27 fk_tries (hx_col_0 po_16 hz_tries), trivial⟩, ⟨fun q _ => hx_pf0 po_9, fun q _ => hx_pf0 po_10, fun q _ => hx_pf0 po_11, fun q _ => hx_pf0 po_12, fun w q hw hq => by obtain rfl : q_23 = w := Option.some.inj (fq_23.symm.trans hw); exact hx_pf0 po_13⟩, ⟨hx_ob fk_words hwd, hx_ob fk_rule (by rw [z10_1, h00]; exact hwk), hx_ob2 fk_proof fk_proofSteps (by rw [z10_1, h00]; exact hrp), fun q _ => by rw [z10_2, z10_1, h00]; exact fun k h0 h1 => by omega, fun q _ => by rw [z10_3, z10_2]; exact hx_hc00, hx_ob fk_tries htr, fun q r _ _ => by rw [z10_2, h00]; exact fun c hc => by exfalso; omega⟩⟩
  refine W.widen (k := 112) (n := 26072) (Nat.le_of_ble_eq_true rfl) (Nat.le_of_ble_eq_true rfl) ?_
  have zi0 : (0 : Int32).toInt = 7 * 0 := by decide
  exact law_loop l hx hb hr hlocks hml hown hts hX hbl hbA hL dC dI dA b0 q_2 q_40 112 26072 (Nat.le_of_ble_eq_true rfl) (Nat.le_of_ble_eq_true rfl) hZ (LN + 1) 0 0 112 26072 L_42 h_43 H locs ls (by omega) zi0 (by omega) (by omega) (by omega) (by omega) hW hI hl
