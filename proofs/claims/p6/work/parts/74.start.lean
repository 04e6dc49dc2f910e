set_option maxHeartbeats 4000000 in
set_option maxRecDepth 100000 in
/-- THE LAW, from its entry -/
theorem whole_start {p : Program} {e : Env} {s : State} {m : MethodId} {below : List Frame} {meth : Method} {c : Code} (l : Launch) (hflags : l.flags = flags0) {b LN : Nat} {xs : Nat → Int32} (hL : LN ≤ 3584) (C0 : lw_At p s m meth c b LN xs) : W p l e room_1 s m #[Value.ref b] below meth c s.heap [] 0 0 (lw_Z below #[Value.ref b] s) (entryFrame m ([Value.ref b] : List Value).toArray 4) := by
  obtain ⟨hx, hb, hr, hml, hown, htl, hX, hbl, hlocks, hgv⟩ := id C0
  have hown : s.vm.findClass "SmallCourtLaw" = some m.cls := hown
  have hts : ∀ w ∈ hx_all, w.before #[Value.ref b] s = true := fun w hw => htl w (hx_sub w hw)
  have hA : ∀ q : Nat, s.heap.size ≤ q → (fun q : Nat => s.heap.size ≤ q) q := fun _ h => h
  have hbA : ¬ s.heap.size ≤ b := Nat.not_le.mpr hbl
  obtain ⟨w0, hz1, hz2, hz3⟩ := hx_wo hgv htl
  obtain ⟨t1, t2, kf, vf, hz4⟩ := hx_xs hgv htl
  obtain ⟨b0, hb0⟩ : ∃ z : hx_z, z = (w0, t1, t2, kf, vf) := ⟨_, rfl⟩
  have hZ : hx_Xt (fun q : Nat => s.heap.size ≤ q) b0 s := by rw [hb0]; exact ⟨hx_nest htl, ⟨va_AO.of (htl _ kw_187), va_AO.of (htl _ kw_189), va_AO.of (htl _ kw_224)⟩, hz1, hz2, hz3, Nat.not_le.mpr hz3, hz4 w0⟩
  obtain ⟨dC, dI, dA, hK⟩ := hx_K0 htl
  have hW : hx_W T_tb (P_ty dA) (dC, dI) vwCl (fun q : Nat => s.heap.size ≤ q) s.heap [] (fun _ => 0, fun _ _ => 0, fun _ _ => none) s s.heap [] := ⟨hK, fun k q h => by simp [hx_p, va_pl] at h, ⟨fun i j p q h => by simp [hx_p, va_pl] at h, fun k q h => by simp [hx_p, va_pl] at h⟩, va_S.rf, hA⟩
  have hT : hx_T T_tb [] (fun _ => 0, fun _ _ => 0, fun _ _ => none) := fun a ha => by cases ha
  have hl := lv_entry ([.ref b]) (n := 4) (Nat.le_of_ble_eq_true rfl)
  rw [lg_entry_eq]
  generalize (lg_sl ([.ref b]) ++ List.replicate (4 - (lg_sl ([.ref b])).length) Slot.unset).toArray = ls at hl ⊢
  have hl : lv_has ls 4 [(0, .ref b)] := hl
  refine hk_new hx hb hts hC_9 hown hW 125 tt_125 rfl (by decide) kw_111 kw_112 kw_94 (Nat.le_of_ble_eq_true rfl) (Nat.le_of_ble_eq_true rfl) dL_law_0 (fun q_2 H h_1 eh_1 hqq_2 hW hs gq_2 => ?_)
  have hT : hx_T T_tb ([] ++ [q_2]) h_1 := by rw [eh_1]; exact hx_T_nw hT hqq_2 tt_125 rfl
  have fz_3 : ∀ j, ([] : List Nat).contains j = false → h_1.2.1 q_2 j = 0 ∧ h_1.2.2 q_2 j = none := by rw [eh_1]; exact fun _ _ => ⟨hx_nw_i, hx_nw_r⟩
  refine lv_dup hx hb dL_law_3 rfl ?_
  refine hx_gov (hx_runIX (As := []) (rest := [.ref q_2]) ⟨hx, hb, hml, hown, hts⟩ hW (t_X9_init_w l dC dI dA ([] ++ [q_2]) h_1 H.size b0 q_2 hT gq_2 (fun j => fz_3 j rfl)) hZ (cwI 0 hts (hx_gC kw_115) rfl rfl rfl (hts _ kw_94) (hts _ kw_113) (hts _ kw_114) rfl (by decide +kernel) ⟨Nat.le_of_ble_eq_true rfl, Nat.le_of_ble_eq_true rfl⟩) rfl hl.1 rfl (Nat.le_of_ble_eq_true rfl) dL_law_4 ⟨Nat.le_of_ble_eq_true rfl, Nat.le_of_ble_eq_true rfl⟩) hW (fun L_4 h_5 H locs p_7 hW => ?_)
  obtain ⟨hT, hs, gNq_2, po_8, po_9, po_10, po_11, po_12, po_13, po_14, po_15, po_16, po_17, po_18, po_19⟩ := p_7
  replace hT : hx_T T_tb L_4 h_5 := hT
  replace hs : hx_S T_tb [(11, 0), (12, 0), (116, 0), (116, 1), (116, 2), (116, 3), (116, 4), (117, 1), (117, 2), (117, 3), (117, 4), (117, 5), (117, 6), (117, 7), (119, 1), (119, 2), (119, 3), (119, 4), (119, 5), (121, 2), (121, 3), (121, 4), (121, 5), (121, 6), (121, 7), (121, 8), (122, 0), (123, 0), (123, 3), (123, 5), (123, 6), (123, 7), (124, 2), (124, 3), (124, 4), (125, 0), (125, 3), (125, 4), (125, 5), (125, 7), (125, 9), (125, 10), (125, 12), (125, 14), (125, 15), (125, 16), (125, 17), (125, 18), (125, 19)] (hx_X ([] ++ [q_2]) q_2) h_1 L_4 h_5 := hs
  have gq_2 : hx_g L_4 h_5 q_2 9 := gNq_2
  have po_8 : h_5.2.1 q_2 2 = 0 := po_8
  have po_9 : h_5.2.1 q_2 6 = 0 := po_9
  have po_10 : h_5.2.1 q_2 8 = 0 := po_10
  have po_11 : h_5.2.1 q_2 11 = 0 := po_11
  have po_12 : h_5.2.1 q_2 13 = 0 := po_12
  obtain ⟨q_20, fq_20, gq_20, po_13⟩ := po_13
  have fq_20 : h_5.2.2 q_2 19 = some q_20 := fq_20
  have gq_20 : hx_g L_4 h_5 q_20 8 := gq_20
  obtain ⟨po_13, po_13B, q_21, fq_21, gq_21, zq_21⟩ := po_13
  have po_13B : h_5.2.1 q_20 1 = 0 := po_13B
  have po_13 : h_5.2.1 q_20 0 = 0 := po_13
  have fq_21 : h_5.2.2 q_20 3 = some q_21 := fq_21
  have gq_21 : hx_g L_4 h_5 q_21 40 := gq_21
  have zq_21 : ∀ j, h_5.2.1 q_21 j = 0 ∧ h_5.2.2 q_21 j = none := zq_21
  obtain ⟨q_22, fq_22, gq_22, po_14⟩ := po_14
  have fq_22 : h_5.2.2 q_2 9 = some q_22 := fq_22
  have gq_22 : hx_g L_4 h_5 q_22 1 := gq_22
  have po_14 : h_5.2.1 q_22 0 = 0 := po_14
  obtain ⟨q_23, fq_23, gq_23, po_15⟩ := po_15
  have fq_23 : h_5.2.2 q_2 7 = some q_23 := fq_23
  have gq_23 : hx_g L_4 h_5 q_23 44 := gq_23
  have po_15 : ∀ j, h_5.2.1 q_23 j = 0 ∧ h_5.2.2 q_23 j = none := po_15
  obtain ⟨q_24, fq_24, gq_24, po_16⟩ := po_16
  have fq_24 : h_5.2.2 q_2 10 = some q_24 := fq_24
  have gq_24 : hx_g L_4 h_5 q_24 45 := gq_24
  have po_16 : ∀ j, h_5.2.1 q_24 j = 0 ∧ h_5.2.2 q_24 j = none := po_16
  have po_17 : h_5.2.1 q_2 1 = 0 := po_17
  obtain ⟨q_25, fq_25, gq_25, po_18⟩ := po_18
  have fq_25 : h_5.2.2 q_2 0 = some q_25 := fq_25
  have gq_25 : hx_g L_4 h_5 q_25 42 := gq_25
  have po_18 : ∀ j, h_5.2.1 q_25 j = 0 ∧ h_5.2.2 q_25 j = none := po_18
  obtain ⟨q_26, fq_26, gq_26, po_19⟩ := po_19
  have fq_26 : h_5.2.2 q_2 4 = some q_26 := fq_26
  have gq_26 : hx_g L_4 h_5 q_26 0 := gq_26
  have po_19 : hv_AQ h_5 q_26 (-1) hv_A0 := po_19
  obtain ⟨q_27, fq_27, gq_27⟩ := hx_rf hT gq_2 tt_9 (k := 5) (u := 43) rfl
  have hRAs : hv_RA h_5 q_27 q_26 0 (fun _ => hv_A0) := ⟨po_19, fun j hj => absurd hj (by omega)⟩
  refine lv_astore_n (lv' := [(1, .ref q_2), (0, .ref b)]) hx hb dL_law_7 rfl hl (by decide) rfl (fun ls hl => ?_)
  have hTo := hT
  refine hk_new hx hb hts hC_10 hown hW 126 tt_126 rfl (by decide) kw_1113 kw_1114 kw_103 (Nat.le_of_ble_eq_true rfl) (Nat.le_of_ble_eq_true rfl) dL_law_8 (fun q_29 H h_28 eh_28 hqq_29 hW hs gq_29 => ?_)
  have hT : hx_T T_tb (L_4 ++ [q_29]) h_28 := by rw [eh_28]; exact hx_T_nw hT hqq_29 tt_126 rfl
  replace po_8 := (hs.o gq_2 trivial rfl).1.trans po_8
  replace po_9 := (hs.o gq_2 trivial rfl).1.trans po_9
  replace po_10 := (hs.o gq_2 trivial rfl).1.trans po_10
  replace po_11 := (hs.o gq_2 trivial rfl).1.trans po_11
  replace po_12 := (hs.o gq_2 trivial rfl).1.trans po_12
  replace fq_20 := (hs.o gq_2 trivial rfl).2.trans fq_20
  replace po_13B := (hs.o gq_20 trivial rfl).1.trans po_13B
  replace po_13 := (hs.o gq_20 trivial rfl).1.trans po_13
  replace fq_21 := (hs.o gq_20 trivial rfl).2.trans fq_21
  replace fq_22 := (hs.o gq_2 trivial rfl).2.trans fq_22
  replace po_14 := (hs.o gq_22 trivial rfl).1.trans po_14
  replace fq_23 := (hs.o gq_2 trivial rfl).2.trans fq_23
  replace fq_24 := (hs.o gq_2 trivial rfl).2.trans fq_24
  replace po_17 := (hs.o gq_2 trivial rfl).1.trans po_17
  replace fq_25 := (hs.o gq_2 trivial rfl).2.trans fq_25
  replace fq_26 := (hs.o gq_2 trivial rfl).2.trans fq_26
  replace fq_27 := (hs.o gq_2 trivial rfl).2.trans fq_27
  replace hRAs : hv_RA h_28 q_27 q_26 0 (fun _ => hv_A0) := hv_RA_S hs hTo gq_27 gq_26 tt_43 tt_0 rfl rfl rfl rfl rfl rfl (by decide) hRAs
  replace zq_21 : ∀ j, h_28.2.1 q_21 j = 0 ∧ h_28.2.2 q_21 j = none := fun j => ⟨(hs.a gq_21 rfl j).1.trans (zq_21 j).1, (hs.a gq_21 rfl j).2.trans (zq_21 j).2⟩
  replace po_15 : ∀ j, h_28.2.1 q_23 j = 0 ∧ h_28.2.2 q_23 j = none := fun j => ⟨(hs.a gq_23 rfl j).1.trans (po_15 j).1, (hs.a gq_23 rfl j).2.trans (po_15 j).2⟩
  replace po_16 : ∀ j, h_28.2.1 q_24 j = 0 ∧ h_28.2.2 q_24 j = none := fun j => ⟨(hs.a gq_24 rfl j).1.trans (po_16 j).1, (hs.a gq_24 rfl j).2.trans (po_16 j).2⟩
  replace po_18 : ∀ j, h_28.2.1 q_25 j = 0 ∧ h_28.2.2 q_25 j = none := fun j => ⟨(hs.a gq_25 rfl j).1.trans (po_18 j).1, (hs.a gq_25 rfl j).2.trans (po_18 j).2⟩
  replace gq_2 := gq_2.S hs
  replace gq_20 := gq_20.S hs
  replace gq_21 := gq_21.S hs
  replace gq_22 := gq_22.S hs
  replace gq_23 := gq_23.S hs
  replace gq_24 := gq_24.S hs
  replace gq_25 := gq_25.S hs
  replace gq_26 := gq_26.S hs
  replace gq_27 := gq_27.S hs
  have fz_30 : ∀ j, ([] : List Nat).contains j = false → h_28.2.1 q_29 j = 0 ∧ h_28.2.2 q_29 j = none := by rw [eh_28]; exact fun _ _ => ⟨hx_nw_i, hx_nw_r⟩
  refine lv_dup hx hb dL_law_11 rfl ?_
  have hTo := hT
  refine hx_gov (hx_runIX (As := []) (rest := [.ref q_29]) ⟨hx, hb, hml, hown, hts⟩ hW (t_X10_init l dC dI dA (L_4 ++ [q_29]) h_28 H.size b0 q_29 hT gq_29 (fun j => fz_30 j rfl)) hZ (cwI 0 hts (hx_gC kw_1117) rfl rfl rfl (hts _ kw_103) (hts _ kw_1115) (hts _ kw_1116) rfl (by decide +kernel) ⟨Nat.le_of_ble_eq_true rfl, Nat.le_of_ble_eq_true rfl⟩) rfl hl.1 rfl (Nat.le_of_ble_eq_true rfl) dL_law_12 ⟨Nat.le_of_ble_eq_true rfl, Nat.le_of_ble_eq_true rfl⟩) hW (fun L_31 h_32 H locs p_34 hW => ?_)
  have hTo := hT
  obtain ⟨hT, hs, gN, z10_0, z10_1, z10_2, z10_3, z10_4, z10_5, z10_6, z10_7, z10_8, z10_9, z10_10, z10_11, z10_12, k_words, k_rule, k_proofSteps, k_proof, k_tries, k_isDead, k_isJudge, k_found, k_list, k_judged, k_weekly, k_owed, k_doorX, k_doorY, k_tape, k_actDay, fk_words, gk_words, fk_rule, gk_rule, fk_proofSteps, gk_proofSteps, fk_proof, gk_proof, fk_tries, gk_tries, fk_isDead, gk_isDead, fk_isJudge, gk_isJudge, fk_found, gk_found, fk_list, gk_list, fk_judged, gk_judged, fk_weekly, gk_weekly, fk_owed, gk_owed, fk_doorX, gk_doorX, fk_doorY, gk_doorY, fk_tape, gk_tape, fk_actDay, gk_actDay, hwd, hwk, hrp, hz_tries, hz_isDead, hz_isJudge, hz_found, hz_list, hz_judged, hz_weekly, hz_owed, hz_doorX, hz_doorY, hz_tape, hca⟩ := p_34
  have hT : hx_T T_tb L_31 h_32 := hT
  have hs : hx_S T_tb [(10, 14), (10, 16), (10, 18), (50, 0), (51, 0), (52, 0), (55, 0), (57, 0), (126, 2), (126, 3), (126, 4), (126, 5), (126, 6), (126, 12), (126, 15), (126, 17), (126, 19), (126, 21), (126, 22), (126, 23), (126, 24), (126, 25), (126, 26), (126, 27), (126, 28), (126, 30), (126, 31), (126, 32), (126, 33), (126, 34), (126, 35), (126, 37), (126, 38), (126, 39), (126, 40), (126, 41), (126, 42), (126, 43), (126, 44), (126, 45), (126, 46), (126, 47), (126, 48), (126, 49), (126, 50), (126, 51), (126, 52), (126, 53), (126, 54), (126, 55), (126, 56), (126, 58), (126, 60), (126, 61), (126, 62), (126, 63), (126, 64), (126, 65), (126, 66), (126, 73), (126, 74), (126, 76), (126, 77), (126, 78), (126, 79), (126, 80), (126, 81), (126, 82), (126, 85), (126, 88), (126, 89), (126, 91), (126, 93), (126, 94), (126, 97)] (hx_X (L_4 ++ [q_29]) q_29) h_28 L_31 h_32 := hs
  have gq_2 := hx_gX gq_2 (gq_2.ne gq_29 (by decide))
  have gq_20 := hx_gX gq_20 (gq_20.ne gq_29 (by decide))
  have gq_21 := hx_gX gq_21 (gq_21.ne gq_29 (by decide))
  have gq_22 := hx_gX gq_22 (gq_22.ne gq_29 (by decide))
  have gq_23 := hx_gX gq_23 (gq_23.ne gq_29 (by decide))
  have gq_24 := hx_gX gq_24 (gq_24.ne gq_29 (by decide))
  have gq_25 := hx_gX gq_25 (gq_25.ne gq_29 (by decide))
  have gq_26 := hx_gX gq_26 (gq_26.ne gq_29 (by decide))
  have gq_27 := hx_gX gq_27 (gq_27.ne gq_29 (by decide))
  replace po_8 := (hs.o gq_2 trivial rfl).1.trans po_8
  replace po_9 := (hs.o gq_2 trivial rfl).1.trans po_9
  replace po_10 := (hs.o gq_2 trivial rfl).1.trans po_10
  replace po_11 := (hs.o gq_2 trivial rfl).1.trans po_11
  replace po_12 := (hs.o gq_2 trivial rfl).1.trans po_12
  replace fq_20 := (hs.o gq_2 trivial rfl).2.trans fq_20
  replace po_13B := (hs.o gq_20 trivial rfl).1.trans po_13B
  replace po_13 := (hs.o gq_20 trivial rfl).1.trans po_13
  replace fq_21 := (hs.o gq_20 trivial rfl).2.trans fq_21
  replace fq_22 := (hs.o gq_2 trivial rfl).2.trans fq_22
  replace po_14 := (hs.o gq_22 trivial rfl).1.trans po_14
  replace fq_23 := (hs.o gq_2 trivial rfl).2.trans fq_23
  replace fq_24 := (hs.o gq_2 trivial rfl).2.trans fq_24
  replace po_17 := (hs.o gq_2 trivial rfl).1.trans po_17
  replace fq_25 := (hs.o gq_2 trivial rfl).2.trans fq_25
  replace fq_26 := (hs.o gq_2 trivial rfl).2.trans fq_26
  replace fq_27 := (hs.o gq_2 trivial rfl).2.trans fq_27
  replace hRAs : hv_RA h_32 q_27 q_26 0 (fun _ => hv_A0) := hv_RA_X hs hTo gq_27 gq_26 gq_29 tt_43 tt_0 rfl rfl rfl rfl rfl rfl (by decide) (by decide) hRAs
  replace zq_21 : ∀ j, h_32.2.1 q_21 j = 0 ∧ h_32.2.2 q_21 j = none := fun j => ⟨(hs.a gq_21 rfl j).1.trans (zq_21 j).1, (hs.a gq_21 rfl j).2.trans (zq_21 j).2⟩
  replace po_15 : ∀ j, h_32.2.1 q_23 j = 0 ∧ h_32.2.2 q_23 j = none := fun j => ⟨(hs.a gq_23 rfl j).1.trans (po_15 j).1, (hs.a gq_23 rfl j).2.trans (po_15 j).2⟩
  replace po_16 : ∀ j, h_32.2.1 q_24 j = 0 ∧ h_32.2.2 q_24 j = none := fun j => ⟨(hs.a gq_24 rfl j).1.trans (po_16 j).1, (hs.a gq_24 rfl j).2.trans (po_16 j).2⟩
  replace po_18 : ∀ j, h_32.2.1 q_25 j = 0 ∧ h_32.2.2 q_25 j = none := fun j => ⟨(hs.a gq_25 rfl j).1.trans (po_18 j).1, (hs.a gq_25 rfl j).2.trans (po_18 j).2⟩
  replace gq_2 := gq_2.S hs
  replace gq_20 := gq_20.S hs
  replace gq_21 := gq_21.S hs
  replace gq_22 := gq_22.S hs
  replace gq_23 := gq_23.S hs
  replace gq_24 := gq_24.S hs
  replace gq_25 := gq_25.S hs
  replace gq_26 := gq_26.S hs
  replace gq_27 := gq_27.S hs
  have gq_29 : hx_g L_31 h_32 q_29 10 := gN
  have z10_0 : h_32.2.1 q_29 0 = 0 := z10_0
  have z10_1 : h_32.2.1 q_29 1 = 0 := z10_1
  have z10_2 : h_32.2.1 q_29 36 = 0 := z10_2
  have z10_3 : h_32.2.1 q_29 57 = 0 := z10_3
  have z10_4 : h_32.2.1 q_29 7 = 0 := z10_4
  have z10_5 : h_32.2.1 q_29 20 = 0 := z10_5
  have z10_6 : h_32.2.1 q_29 29 = 0 := z10_6
  have z10_7 : h_32.2.1 q_29 59 = 0 := z10_7
  have z10_8 : h_32.2.1 q_29 72 = 0 := z10_8
  have z10_9 : h_32.2.1 q_29 83 = 0 := z10_9
  have z10_10 : h_32.2.1 q_29 84 = 0 := z10_10
  have z10_11 : h_32.2.1 q_29 90 = 0 := z10_11
  have z10_12 : h_32.2.1 q_29 92 = 0 := z10_12
  have fk_words : h_32.2.2 q_29 19 = some k_words := fk_words
  have fk_rule : h_32.2.2 q_29 3 = some k_rule := fk_rule
  have fk_proofSteps : h_32.2.2 q_29 4 = some k_proofSteps := fk_proofSteps
  have fk_proof : h_32.2.2 q_29 5 = some k_proof := fk_proof
  have fk_tries : h_32.2.2 q_29 45 = some k_tries := fk_tries
  have fk_isDead : h_32.2.2 q_29 27 = some k_isDead := fk_isDead
  have fk_isJudge : h_32.2.2 q_29 28 = some k_isJudge := fk_isJudge
  have fk_found : h_32.2.2 q_29 46 = some k_found := fk_found
  have fk_list : h_32.2.2 q_29 91 = some k_list := fk_list
  have fk_judged : h_32.2.2 q_29 51 = some k_judged := fk_judged
  have fk_weekly : h_32.2.2 q_29 54 = some k_weekly := fk_weekly
  have fk_owed : h_32.2.2 q_29 55 = some k_owed := fk_owed
  have fk_doorX : h_32.2.2 q_29 24 = some k_doorX := fk_doorX
  have fk_doorY : h_32.2.2 q_29 25 = some k_doorY := fk_doorY
  have fk_tape : h_32.2.2 q_29 6 = some k_tape := fk_tape
  have fk_actDay : h_32.2.2 q_29 2 = some k_actDay := fk_actDay
  have hwd : hx_wd (h_32.2.1 k_words) := hwd
  have hwk : hx_WK (h_32.2.1 k_rule) 0 := hwk
  have hrp : hx_RP (h_32.2.1 k_proof) (h_32.2.1 k_proofSteps) 0 := hrp
  have htr : hx_TR (h_32.2.1 k_tries) 0 := fun j _ => by rw [hz_tries j]; decide
  have hca : hv_CA (h_32.2.1 k_actDay) (h_32.2.1 k_rule) (h_32.2.1 k_proofSteps) (h_32.2.1 k_proof) 0 (fun _ => hv_A0) := hca
  refine lv_astore_n (lv' := [(2, .ref q_29), (1, .ref q_2), (0, .ref b)]) hx hb dL_law_15 rfl hl (by decide) rfl (fun ls hl => ?_)
  refine lv_iconst (v := 0) hx hb dL_law_16 (by decide) ?_
  refine lv_istore_n (lv' := [(3, .int (0 : Int32)), (2, .ref q_29), (1, .ref q_2), (0, .ref b)]) hx hb dL_law_17 rfl hl (by decide) rfl (fun ls hl => ?_)
  have h00 : (0 : Int32).toInt = 0 := by decide
  have hI : hx_IV 0 q_2 q_29 L_31 h_32 := ⟨hT, gq_2, gq_29, ⟨po_8.trans z10_0.symm, po_10.trans z10_5.symm, po_11.trans z10_2.symm, po_17.trans z10_4.symm, po_9.trans z10_1.symm, hx_ob fq_22 (po_14.trans z10_6.symm), hx_ob fq_20 (po_13.trans z10_11.symm), hx_ob fq_20 (po_13B.trans z10_12.symm), hx_ob fq_23 (by rw [po_10, h00]; exact hx_num_0 po_15), hx_ob fq_24 (by rw [po_11, h00]; exact hx_num_0 po_16), (fun b a r hb _ _ => by obtain rfl : q_22 = b := Option.some.inj (fq_22.symm.trans hb); exact hx_eqN_z po_14), (fun b a r hb _ _ => by obtain rfl : q_22 = b := Option.some.inj (fq_22.symm.trans hb); exact hx_eqN_z po_14), (fun b a r hb _ _ => by obtain rfl : q_22 = b := Option.some.inj (fq_22.symm.trans hb); exact hx_eqN_z po_14), (fun b a r hb _ _ => by obtain rfl : q_22 = b := Option.some.inj (fq_22.symm.trans hb); exact hx_eqN_z po_14), (fun b a r hb _ _ => by obtain rfl : q_22 = b := Option.some.inj (fq_22.symm.trans hb); exact hx_eqN_z po_14), (fun b a r hb _ _ => by obtain rfl : q_22 = b := Option.some.inj (fq_22.symm.trans hb); exact hy_BD_z po_14), (fun w q c hw hq _ => by obtain rfl : q_20 = w := Option.some.inj (fq_20.symm.trans hw); obtain rfl : q_21 = q := Option.some.inj (fq_21.symm.trans hq); exact hx_LQ_0 zq_21), (fun w q r hw hq hr => by obtain rfl : q_20 = w := Option.some.inj (fq_20.symm.trans hw); obtain rfl : q_21 = q := Option.some.inj (fq_21.symm.trans hq); obtain rfl : k_list = r := Option.some.inj (fk_list.symm.trans hr); exact hx_col_0 zq_21 hz_list), (fun w a r hw _ _ => by obtain rfl : q_20 = w := Option.some.inj (fq_20.symm.trans hw); exact hx_eqN_z po_13B), (fun c q a hc _ _ => by obtain rfl : q_24 = c := Option.some.inj (fq_24.symm.trans hc); exact hw_DF_0 po_16), (fun q r hq hr => by obtain rfl : q_25 = q := Option.some.inj (fq_25.symm.trans hq); obtain rfl : k_tape = r := Option.some.inj (fk_tape.symm.trans hr); funext j; rw [(po_18 j).1, hz_tape j]), (fun q w a b c d hq hw ha hb hc hd => by obtain rfl : q_27 = q := Option.some.inj (fq_27.symm.trans hq); obtain rfl : q_26 = w := Option.some.inj (fq_26.symm.trans hw); obtain rfl : k_actDay = a := Option.some.inj (fk_actDay.symm.trans ha); obtain rfl : k_rule = b := Option.some.inj (fk_rule.symm.trans hb); obtain rfl : k_proofSteps = c := Option.some.inj (fk_proofSteps.symm.trans hc); obtain rfl : k_proof = d := Option.some.inj (fk_proof.symm.trans hd); exact ⟨_, by rw [po_9, h00]; exact hRAs, by rw [po_9, h00]; exact hca⟩), hx_ob2 fq_23 fk_isDead (hx_col_0 po_15 hz_isDead), hx_ob2 fq_23 fk_isJudge (hx_col_0 po_15 hz_isJudge), hx_ob2 fq_23 fk_doorX (hx_col_0 po_15 hz_doorX), hx_ob2 fq_23 fk_doorY (hx_col_0 po_15 hz_doorY), hx_ob2 fq_24 fk_found (hx_col_0 po_16 hz_found), hx_ob2 fq_24 fk_tries (hx_col_0 po_16 hz_tries), trivial⟩, ⟨fun q _ => hx_pf0 po_9, fun q _ => hx_pf0 po_10, fun q _ => hx_pf0 po_11, fun q _ => hx_pf0 po_12, fun w q hw hq => by obtain rfl : q_20 = w := Option.some.inj (fq_20.symm.trans hw); exact hx_pf0 po_13⟩, ⟨hx_ob fk_words hwd, hx_ob fk_rule (by rw [z10_1, h00]; exact hwk), hx_ob2 fk_proof fk_proofSteps (by rw [z10_1, h00]; exact hrp), fun q _ => by rw [z10_2, z10_1, h00]; exact fun k h0 h1 => by omega, fun q _ => by rw [z10_3, z10_2]; exact hx_hc00, hx_ob fk_tries htr, fun q r _ _ => by rw [z10_2, h00]; exact fun c hc => by exfalso; omega⟩⟩
  refine W.widen (k := 112) (n := 26072) (Nat.le_of_ble_eq_true rfl) (Nat.le_of_ble_eq_true rfl) ?_
  have zi0 : (0 : Int32).toInt = 7 * 0 := by decide
  exact law_loop l hx hb hr hlocks hml hown hts hX hbl hbA hL dC dI dA b0 q_2 q_29 112 26072 (Nat.le_of_ble_eq_true rfl) (Nat.le_of_ble_eq_true rfl) hZ (LN + 1) 0 0 112 26072 L_31 h_32 H locs ls (by omega) zi0 (by omega) (by omega) (by omega) (by omega) hW hI hl
