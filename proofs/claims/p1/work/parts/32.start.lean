set_option maxHeartbeats 4000000 in
set_option maxRecDepth 100000 in
/-- THE LAW, from its entry -/
theorem whole_start {p : Program} {e : Env} {s : State} {m : MethodId} {below : List Frame} {meth : Method} {c : Code} (l : Launch) (hflags : l.flags = flags0) {b LN : Nat} {xs : Nat → Int32} (hL : LN ≤ 7) (C0 : lw_At p s m meth c b LN xs) : W p l e room_1 s m #[Value.ref b] below meth c s.heap [] 0 0 (lw_Z below #[Value.ref b] s) (entryFrame m ([Value.ref b] : List Value).toArray 4) := by
  obtain ⟨hx, hb, hr, hml, hown, htl, hX, hbl, hlocks, hgv⟩ := id C0
  have hown : s.vm.findClass "SmallCourtLaw" = some m.cls := hown
  have hts : ∀ w ∈ hx_all, w.before #[Value.ref b] s = true := fun w hw => htl w (hx_sub w hw)
  have hA : ∀ q : Nat, s.heap.size ≤ q → (fun q : Nat => s.heap.size ≤ q) q := fun _ h => h
  have hbA : ¬ (fun q : Nat => s.heap.size ≤ q) b := Nat.not_le.mpr hbl
  obtain ⟨b0, hz1, hz2, hz3⟩ := hx_wo hgv htl
  have hZ : hx_Xt (fun q : Nat => s.heap.size ≤ q) b0 s := ⟨hx_nest htl, ⟨va_AO.of (htl _ kw_187), va_AO.of (htl _ kw_189), va_AO.of (htl _ kw_224)⟩, hz1, hz2, hz3, Nat.not_le.mpr hz3⟩
  obtain ⟨dC, dI, dA, hK⟩ := hx_K0 htl
  have hW : hx_W P_tb (P_ty dA) (dC, dI) vwCl (fun q : Nat => s.heap.size ≤ q) s.heap [] (fun _ => 0, fun _ _ => 0, fun _ _ => none) s s.heap [] := ⟨hK, fun k q h => by simp [hx_p, va_pl] at h, ⟨fun i j p q h => by simp [hx_p, va_pl] at h, fun k q h => by simp [hx_p, va_pl] at h⟩, va_S.rf, hA⟩
  have hl := lv_entry ([.ref b]) (n := 4) (Nat.le_of_ble_eq_true rfl)
  rw [lg_entry_eq]
  generalize (lg_sl ([.ref b]) ++ List.replicate (4 - (lg_sl ([.ref b])).length) Slot.unset).toArray = ls at hl ⊢
  have hl : lv_has ls 4 [(0, .ref b)] := hl
  refine hk_new hx hb hts hC_9 hown hW 9 td_9 rfl (by decide) kw_111 kw_112 kw_94 (Nat.le_of_ble_eq_true rfl) (Nat.le_of_ble_eq_true rfl) dL_law_0 (fun q_2 H h_1 eh_1 hqq_2 hW hs gq_2 => ?_)
  have f_4 : h_1.2.1 q_2 1 = 0 := by rw [eh_1]; exact hx_nw_i
  have f_5 : h_1.2.1 q_2 2 = 0 := by rw [eh_1]; exact hx_nw_i
  have f_9 : h_1.2.1 q_2 6 = 0 := by rw [eh_1]; exact hx_nw_i
  have f_11 : h_1.2.1 q_2 8 = 0 := by rw [eh_1]; exact hx_nw_i
  have f_14 : h_1.2.1 q_2 11 = 0 := by rw [eh_1]; exact hx_nw_i
  have f_16 : h_1.2.1 q_2 13 = 0 := by rw [eh_1]; exact hx_nw_i
  refine lv_dup hx hb dL_law_3 rfl ?_
  refine hx_gov (hx_runIX (As := []) (rest := [.ref q_2]) ⟨hx, hb, hml, hown, hts⟩ hW (c_X9_init l dC dI dA ([] ++ [q_2]) h_1 H.size b0 q_2 gq_2) hZ (cwI 0 hts (hx_gC kw_115) rfl rfl rfl (hts _ kw_94) (hts _ kw_113) (hts _ kw_114) rfl (by decide +kernel) ⟨Nat.le_of_ble_eq_true rfl, Nat.le_of_ble_eq_true rfl⟩) rfl hl.1 rfl (Nat.le_of_ble_eq_true rfl) dL_law_4 ⟨Nat.le_of_ble_eq_true rfl, Nat.le_of_ble_eq_true rfl⟩) hW (fun L_23 h_24 H locs p_26 hW => ?_)
  obtain ⟨hs, ⟨q_27, f_28, gq_27⟩, ⟨q_29, f_30, gq_29⟩, ⟨q_31, f_32, gq_31, f_33, ⟨q_34, f_35, gq_34, fa_36⟩⟩, ⟨q_37, f_38, gq_37⟩, ⟨q_39, f_40, gq_39⟩, ⟨q_41, f_42, gq_41, f_43⟩, ⟨q_44, f_45, gq_44, f_46⟩, ⟨q_47, f_48, gq_47, f_49⟩, ⟨q_50, f_51, gq_50, f_52, ⟨q_53, f_54, gq_53⟩⟩, ⟨q_55, f_56, gq_55, f_57, f_58⟩⟩ := p_26
  have hs : hx_S P_tb [(0, 0), (0, 1), (0, 2), (0, 3), (0, 4), (1, 1), (1, 2), (1, 3), (1, 4), (1, 5), (1, 6), (1, 7), (3, 1), (3, 2), (3, 3), (3, 4), (3, 5), (5, 2), (5, 3), (5, 4), (5, 5), (5, 6), (5, 7), (5, 8), (6, 0), (7, 0), (7, 3), (7, 5), (7, 6), (7, 7), (8, 2), (8, 3), (8, 4), (9, 0), (9, 3), (9, 4), (9, 5), (9, 7), (9, 9), (9, 10), (9, 12), (9, 14), (9, 15), (9, 16), (9, 17), (9, 18), (9, 19), (11, 0), (12, 0)] ([] ++ [q_2]) h_1 L_23 h_24 := hs
  have f_4 := (hs.o gq_2 trivial rfl).1.trans f_4
  have f_5 := (hs.o gq_2 trivial rfl).1.trans f_5
  have f_9 := (hs.o gq_2 trivial rfl).1.trans f_9
  have f_11 := (hs.o gq_2 trivial rfl).1.trans f_11
  have f_14 := (hs.o gq_2 trivial rfl).1.trans f_14
  have f_16 := (hs.o gq_2 trivial rfl).1.trans f_16
  have gq_2 := gq_2.S hs
  have f_28 : h_24.2.2 q_2 0 = some q_27 := f_28
  have gq_27 : hx_g L_23 h_24 q_27 42 := gq_27
  have f_30 : h_24.2.2 q_2 3 = some q_29 := f_30
  have gq_29 : hx_g L_23 h_24 q_29 6 := gq_29
  have f_32 : h_24.2.2 q_2 4 = some q_31 := f_32
  have gq_31 : hx_g L_23 h_24 q_31 0 := gq_31
  have f_33 : h_24.2.1 q_31 0 = (-1 : Int32) := f_33
  have f_35 : h_24.2.2 q_31 2 = some q_34 := f_35
  have gq_34 : hx_g L_23 h_24 q_34 11 := gq_34
  have fa_36 : ∀ j, j < 14 → h_24.2.1 q_34 j = P_wo j := fa_36
  have f_38 : h_24.2.2 q_2 5 = some q_37 := f_38
  have gq_37 : hx_g L_23 h_24 q_37 43 := gq_37
  have f_40 : h_24.2.2 q_2 7 = some q_39 := f_40
  have gq_39 : hx_g L_23 h_24 q_39 44 := gq_39
  have f_42 : h_24.2.2 q_2 9 = some q_41 := f_42
  have gq_41 : hx_g L_23 h_24 q_41 1 := gq_41
  have f_43 : h_24.2.1 q_41 0 = (0 : Int32) := f_43
  have f_45 : h_24.2.2 q_2 14 = some q_44 := f_45
  have gq_44 : hx_g L_23 h_24 q_44 3 := gq_44
  have f_46 : h_24.2.1 q_44 0 = (0 : Int32) := f_46
  have f_48 : h_24.2.2 q_2 17 = some q_47 := f_48
  have gq_47 : hx_g L_23 h_24 q_47 5 := gq_47
  have f_49 : h_24.2.1 q_47 1 = (0 : Int32) := f_49
  have f_51 : h_24.2.2 q_2 18 = some q_50 := f_51
  have gq_50 : hx_g L_23 h_24 q_50 7 := gq_50
  have f_52 : h_24.2.1 q_50 0 = (-1 : Int32) := f_52
  have f_54 : h_24.2.2 q_50 5 = some q_53 := f_54
  have gq_53 : hx_g L_23 h_24 q_53 36 := gq_53
  have f_56 : h_24.2.2 q_2 19 = some q_55 := f_56
  have gq_55 : hx_g L_23 h_24 q_55 8 := gq_55
  have f_57 : h_24.2.1 q_55 0 = (0 : Int32) := f_57
  have f_58 : h_24.2.1 q_55 1 = (0 : Int32) := f_58
  refine lv_astore_n (lv' := [(1, .ref q_2), (0, .ref b)]) hx hb dL_law_7 rfl hl (by decide) rfl (fun ls hl => ?_)
  refine hk_new hx hb hts hC_10 hown hW 10 td_10 rfl (by decide) kw_1113 kw_1114 kw_103 (Nat.le_of_ble_eq_true rfl) (Nat.le_of_ble_eq_true rfl) dL_law_8 (fun q_60 H h_59 eh_59 hqq_60 hW hs gq_60 => ?_)
  have f_4 := (hs.o gq_2 trivial rfl).1.trans f_4
  have f_5 := (hs.o gq_2 trivial rfl).1.trans f_5
  have f_9 := (hs.o gq_2 trivial rfl).1.trans f_9
  have f_11 := (hs.o gq_2 trivial rfl).1.trans f_11
  have f_14 := (hs.o gq_2 trivial rfl).1.trans f_14
  have f_16 := (hs.o gq_2 trivial rfl).1.trans f_16
  have f_28 := (hs.o gq_2 trivial rfl).2.trans f_28
  have f_30 := (hs.o gq_2 trivial rfl).2.trans f_30
  have f_32 := (hs.o gq_2 trivial rfl).2.trans f_32
  have f_33 := (hs.o gq_31 trivial rfl).1.trans f_33
  have f_35 := (hs.o gq_31 trivial rfl).2.trans f_35
  have f_38 := (hs.o gq_2 trivial rfl).2.trans f_38
  have f_40 := (hs.o gq_2 trivial rfl).2.trans f_40
  have f_42 := (hs.o gq_2 trivial rfl).2.trans f_42
  have f_43 := (hs.o gq_41 trivial rfl).1.trans f_43
  have f_45 := (hs.o gq_2 trivial rfl).2.trans f_45
  have f_46 := (hs.o gq_44 trivial rfl).1.trans f_46
  have f_48 := (hs.o gq_2 trivial rfl).2.trans f_48
  have f_49 := (hs.o gq_47 trivial rfl).1.trans f_49
  have f_51 := (hs.o gq_2 trivial rfl).2.trans f_51
  have f_52 := (hs.o gq_50 trivial rfl).1.trans f_52
  have f_54 := (hs.o gq_50 trivial rfl).2.trans f_54
  have f_56 := (hs.o gq_2 trivial rfl).2.trans f_56
  have f_57 := (hs.o gq_55 trivial rfl).1.trans f_57
  have f_58 := (hs.o gq_55 trivial rfl).1.trans f_58
  have fa_36 : ∀ j, j < 14 → _ = P_wo j := fun j hj => (hs.a gq_34 rfl j).1.trans (fa_36 j hj)
  have gq_2 := gq_2.S hs
  have gq_27 := gq_27.S hs
  have gq_29 := gq_29.S hs
  have gq_31 := gq_31.S hs
  have gq_34 := gq_34.S hs
  have gq_37 := gq_37.S hs
  have gq_39 := gq_39.S hs
  have gq_41 := gq_41.S hs
  have gq_44 := gq_44.S hs
  have gq_47 := gq_47.S hs
  have gq_50 := gq_50.S hs
  have gq_53 := gq_53.S hs
  have gq_55 := gq_55.S hs
  have f_61 : h_59.2.1 q_60 0 = 0 := by rw [eh_59]; exact hx_nw_i
  have f_62 : h_59.2.1 q_60 1 = 0 := by rw [eh_59]; exact hx_nw_i
  have f_68 : h_59.2.1 q_60 7 = 0 := by rw [eh_59]; exact hx_nw_i
  have f_69 : h_59.2.1 q_60 8 = 0 := by rw [eh_59]; exact hx_nw_i
  have f_70 : h_59.2.1 q_60 9 = 0 := by rw [eh_59]; exact hx_nw_i
  have f_71 : h_59.2.1 q_60 10 = 0 := by rw [eh_59]; exact hx_nw_i
  have f_72 : h_59.2.1 q_60 11 = 0 := by rw [eh_59]; exact hx_nw_i
  have f_74 : h_59.2.1 q_60 13 = 0 := by rw [eh_59]; exact hx_nw_i
  have f_75 : h_59.2.1 q_60 14 = 0 := by rw [eh_59]; exact hx_nw_i
  have f_77 : h_59.2.1 q_60 16 = 0 := by rw [eh_59]; exact hx_nw_i
  have f_79 : h_59.2.1 q_60 18 = 0 := by rw [eh_59]; exact hx_nw_i
  have f_81 : h_59.2.1 q_60 20 = 0 := by rw [eh_59]; exact hx_nw_i
  have f_90 : h_59.2.1 q_60 29 = 0 := by rw [eh_59]; exact hx_nw_i
  have f_97 : h_59.2.1 q_60 36 = 0 := by rw [eh_59]; exact hx_nw_i
  have f_118 : h_59.2.1 q_60 57 = 0 := by rw [eh_59]; exact hx_nw_i
  have f_120 : h_59.2.1 q_60 59 = 0 := by rw [eh_59]; exact hx_nw_i
  have f_128 : h_59.2.1 q_60 67 = 0 := by rw [eh_59]; exact hx_nw_i
  have f_129 : h_59.2.1 q_60 68 = 0 := by rw [eh_59]; exact hx_nw_i
  have f_130 : h_59.2.1 q_60 69 = 0 := by rw [eh_59]; exact hx_nw_i
  have f_131 : h_59.2.1 q_60 70 = 0 := by rw [eh_59]; exact hx_nw_i
  have f_132 : h_59.2.1 q_60 71 = 0 := by rw [eh_59]; exact hx_nw_i
  have f_133 : h_59.2.1 q_60 72 = 0 := by rw [eh_59]; exact hx_nw_i
  have f_136 : h_59.2.1 q_60 75 = 0 := by rw [eh_59]; exact hx_nw_i
  have f_144 : h_59.2.1 q_60 83 = 0 := by rw [eh_59]; exact hx_nw_i
  have f_145 : h_59.2.1 q_60 84 = 0 := by rw [eh_59]; exact hx_nw_i
  have f_147 : h_59.2.1 q_60 86 = 0 := by rw [eh_59]; exact hx_nw_i
  have f_148 : h_59.2.1 q_60 87 = 0 := by rw [eh_59]; exact hx_nw_i
  have f_151 : h_59.2.1 q_60 90 = 0 := by rw [eh_59]; exact hx_nw_i
  have f_153 : h_59.2.1 q_60 92 = 0 := by rw [eh_59]; exact hx_nw_i
  have f_156 : h_59.2.1 q_60 95 = 0 := by rw [eh_59]; exact hx_nw_i
  have f_157 : h_59.2.1 q_60 96 = 0 := by rw [eh_59]; exact hx_nw_i
  refine lv_dup hx hb dL_law_11 rfl ?_
  refine hx_gov (hx_runI (As := []) (rest := [.ref q_60]) ⟨hx, hb, hml, hown, hts⟩ hW (c_X10_init l dC dI dA (L_23 ++ [q_60]) h_59 H.size q_60 gq_60) (cwI 0 hts (hx_gC kw_1117) rfl rfl rfl (hts _ kw_103) (hts _ kw_1115) (hts _ kw_1116) rfl (by decide +kernel) ⟨Nat.le_of_ble_eq_true rfl, Nat.le_of_ble_eq_true rfl⟩) rfl hl.1 rfl (Nat.le_of_ble_eq_true rfl) dL_law_12 ⟨Nat.le_of_ble_eq_true rfl, Nat.le_of_ble_eq_true rfl⟩) hW (fun L_159 h_160 H locs p_162 hW => ?_)
  obtain ⟨hs, ⟨q_163, f_164, gq_163⟩, ⟨q_165, f_166, gq_165, fa_167⟩, ⟨q_168, f_169, gq_168⟩, ⟨q_170, f_171, gq_170⟩, ⟨q_172, f_173, gq_172⟩, ⟨q_174, f_175, gq_174⟩, ⟨q_176, f_177, gq_176⟩, ⟨q_178, f_179, gq_178⟩, ⟨q_180, f_181, gq_180⟩, ⟨q_182, f_183, gq_182⟩, ⟨q_184, f_185, gq_184⟩, ⟨q_186, f_187, gq_186⟩, ⟨q_188, f_189, gq_188⟩, ⟨q_190, f_191, gq_190⟩, ⟨q_192, f_193, gq_192⟩⟩ := p_162
  have hs : hx_S P_tb [(10, 2), (10, 3), (10, 4), (10, 5), (10, 6), (10, 12), (10, 14), (10, 15), (10, 16), (10, 17), (10, 18), (10, 19), (10, 21), (10, 22), (10, 23), (10, 24), (10, 25), (10, 26), (10, 27), (10, 28), (10, 30), (10, 31), (10, 32), (10, 33), (10, 34), (10, 35), (10, 37), (10, 38), (10, 39), (10, 40), (10, 41), (10, 42), (10, 43), (10, 44), (10, 45), (10, 46), (10, 47), (10, 48), (10, 49), (10, 50), (10, 51), (10, 52), (10, 53), (10, 54), (10, 55), (10, 56), (10, 58), (10, 60), (10, 61), (10, 62), (10, 63), (10, 64), (10, 65), (10, 66), (10, 73), (10, 74), (10, 76), (10, 77), (10, 78), (10, 79), (10, 80), (10, 81), (10, 82), (10, 85), (10, 88), (10, 89), (10, 91), (10, 93), (10, 94), (10, 97), (50, 0), (51, 0), (52, 0), (55, 0), (57, 0)] (L_23 ++ [q_60]) h_59 L_159 h_160 := hs
  have f_4 := (hs.o gq_2 trivial rfl).1.trans f_4
  have f_5 := (hs.o gq_2 trivial rfl).1.trans f_5
  have f_9 := (hs.o gq_2 trivial rfl).1.trans f_9
  have f_11 := (hs.o gq_2 trivial rfl).1.trans f_11
  have f_14 := (hs.o gq_2 trivial rfl).1.trans f_14
  have f_16 := (hs.o gq_2 trivial rfl).1.trans f_16
  have f_28 := (hs.o gq_2 trivial rfl).2.trans f_28
  have f_30 := (hs.o gq_2 trivial rfl).2.trans f_30
  have f_32 := (hs.o gq_2 trivial rfl).2.trans f_32
  have f_33 := (hs.o gq_31 trivial rfl).1.trans f_33
  have f_35 := (hs.o gq_31 trivial rfl).2.trans f_35
  have f_38 := (hs.o gq_2 trivial rfl).2.trans f_38
  have f_40 := (hs.o gq_2 trivial rfl).2.trans f_40
  have f_42 := (hs.o gq_2 trivial rfl).2.trans f_42
  have f_43 := (hs.o gq_41 trivial rfl).1.trans f_43
  have f_45 := (hs.o gq_2 trivial rfl).2.trans f_45
  have f_46 := (hs.o gq_44 trivial rfl).1.trans f_46
  have f_48 := (hs.o gq_2 trivial rfl).2.trans f_48
  have f_49 := (hs.o gq_47 trivial rfl).1.trans f_49
  have f_51 := (hs.o gq_2 trivial rfl).2.trans f_51
  have f_52 := (hs.o gq_50 trivial rfl).1.trans f_52
  have f_54 := (hs.o gq_50 trivial rfl).2.trans f_54
  have f_56 := (hs.o gq_2 trivial rfl).2.trans f_56
  have f_57 := (hs.o gq_55 trivial rfl).1.trans f_57
  have f_58 := (hs.o gq_55 trivial rfl).1.trans f_58
  have f_61 := (hs.o gq_60 trivial rfl).1.trans f_61
  have f_62 := (hs.o gq_60 trivial rfl).1.trans f_62
  have f_68 := (hs.o gq_60 trivial rfl).1.trans f_68
  have f_69 := (hs.o gq_60 trivial rfl).1.trans f_69
  have f_70 := (hs.o gq_60 trivial rfl).1.trans f_70
  have f_71 := (hs.o gq_60 trivial rfl).1.trans f_71
  have f_72 := (hs.o gq_60 trivial rfl).1.trans f_72
  have f_74 := (hs.o gq_60 trivial rfl).1.trans f_74
  have f_81 := (hs.o gq_60 trivial rfl).1.trans f_81
  have f_90 := (hs.o gq_60 trivial rfl).1.trans f_90
  have f_97 := (hs.o gq_60 trivial rfl).1.trans f_97
  have f_118 := (hs.o gq_60 trivial rfl).1.trans f_118
  have f_120 := (hs.o gq_60 trivial rfl).1.trans f_120
  have f_128 := (hs.o gq_60 trivial rfl).1.trans f_128
  have f_129 := (hs.o gq_60 trivial rfl).1.trans f_129
  have f_130 := (hs.o gq_60 trivial rfl).1.trans f_130
  have f_131 := (hs.o gq_60 trivial rfl).1.trans f_131
  have f_132 := (hs.o gq_60 trivial rfl).1.trans f_132
  have f_133 := (hs.o gq_60 trivial rfl).1.trans f_133
  have f_136 := (hs.o gq_60 trivial rfl).1.trans f_136
  have f_144 := (hs.o gq_60 trivial rfl).1.trans f_144
  have f_145 := (hs.o gq_60 trivial rfl).1.trans f_145
  have f_147 := (hs.o gq_60 trivial rfl).1.trans f_147
  have f_148 := (hs.o gq_60 trivial rfl).1.trans f_148
  have f_151 := (hs.o gq_60 trivial rfl).1.trans f_151
  have f_153 := (hs.o gq_60 trivial rfl).1.trans f_153
  have f_156 := (hs.o gq_60 trivial rfl).1.trans f_156
  have f_157 := (hs.o gq_60 trivial rfl).1.trans f_157
  have fa_36 : ∀ j, j < 14 → _ = P_wo j := fun j hj => (hs.a gq_34 rfl j).1.trans (fa_36 j hj)
  have gq_2 := gq_2.S hs
  have gq_27 := gq_27.S hs
  have gq_29 := gq_29.S hs
  have gq_31 := gq_31.S hs
  have gq_34 := gq_34.S hs
  have gq_37 := gq_37.S hs
  have gq_39 := gq_39.S hs
  have gq_41 := gq_41.S hs
  have gq_44 := gq_44.S hs
  have gq_47 := gq_47.S hs
  have gq_50 := gq_50.S hs
  have gq_53 := gq_53.S hs
  have gq_55 := gq_55.S hs
  have gq_60 := gq_60.S hs
  have f_164 : h_160.2.2 q_60 2 = some q_163 := f_164
  have gq_163 : hx_g L_159 h_160 q_163 49 := gq_163
  have f_166 : h_160.2.2 q_60 3 = some q_165 := f_166
  have gq_165 : hx_g L_159 h_160 q_165 50 := gq_165
  have fa_167 : ∀ j, j < 13 → h_160.2.1 q_165 j = P_w1 j := fa_167
  have f_169 : h_160.2.2 q_60 4 = some q_168 := f_169
  have gq_168 : hx_g L_159 h_160 q_168 51 := gq_168
  have f_171 : h_160.2.2 q_60 5 = some q_170 := f_171
  have gq_170 : hx_g L_159 h_160 q_170 52 := gq_170
  have f_173 : h_160.2.2 q_60 6 = some q_172 := f_173
  have gq_172 : hx_g L_159 h_160 q_172 53 := gq_172
  have f_175 : h_160.2.2 q_60 12 = some q_174 := f_175
  have gq_174 : hx_g L_159 h_160 q_174 54 := gq_174
  have f_177 : h_160.2.2 q_60 15 = some q_176 := f_177
  have gq_176 : hx_g L_159 h_160 q_176 55 := gq_176
  have f_179 : h_160.2.2 q_60 21 = some q_178 := f_179
  have gq_178 : hx_g L_159 h_160 q_178 58 := gq_178
  have f_181 : h_160.2.2 q_60 22 = some q_180 := f_181
  have gq_180 : hx_g L_159 h_160 q_180 59 := gq_180
  have f_183 : h_160.2.2 q_60 23 = some q_182 := f_183
  have gq_182 : hx_g L_159 h_160 q_182 60 := gq_182
  have f_185 : h_160.2.2 q_60 24 = some q_184 := f_185
  have gq_184 : hx_g L_159 h_160 q_184 61 := gq_184
  have f_187 : h_160.2.2 q_60 25 = some q_186 := f_187
  have gq_186 : hx_g L_159 h_160 q_186 62 := gq_186
  have f_189 : h_160.2.2 q_60 26 = some q_188 := f_189
  have gq_188 : hx_g L_159 h_160 q_188 63 := gq_188
  have f_191 : h_160.2.2 q_60 82 = some q_190 := f_191
  have gq_190 : hx_g L_159 h_160 q_190 108 := gq_190
  have f_193 : h_160.2.2 q_60 94 = some q_192 := f_193
  have gq_192 : hx_g L_159 h_160 q_192 114 := gq_192
  refine lv_astore_n (lv' := [(2, .ref q_60), (1, .ref q_2), (0, .ref b)]) hx hb dL_law_15 rfl hl (by decide) rfl (fun ls hl => ?_)
  refine W.widen (k := 112) (n := 26072) (Nat.le_of_ble_eq_true rfl) (Nat.le_of_ble_eq_true rfl) ?_
  refine lv_iconst (v := 0) hx hb dL_law_16 (by decide) ?_
  refine lv_istore_n (lv' := [(3, .int (0 : Int32)), (2, .ref q_60), (1, .ref q_2), (0, .ref b)]) hx hb dL_law_17 rfl hl (by decide) rfl (fun ls hl => ?_)
  refine lv_iload_n hx hb dL_law_18 rfl (lv_at hl 0 rfl) ?_
  refine lv_aload_n hx hb dL_law_19 rfl (lv_at hl 3 rfl) ?_
  refine va_slen hx hb hX hbl hbA hW.2.2.2.1 dL_law_20 ?_
  refine lv_topi (fun x_194 ex_194 => ?_)
  have zx_194 : x_194.toInt = (LN : Int) := by rw [ex_194]; exact nI_toInt (by omega)
  refine lv_bipush (v := 7) hx hb dL_law_21 (by decide) ?_
  refine lv_isub hx hb dL_law_23 ?_
  refine lv_topi (fun x_195 ex_195 => ?_)
  have zx_195 : x_195.toInt = x_194.toInt - 7 := by rw [ex_195]; exact i32_sub rfl (by decide) (by omega) (by omega)
  refine hb_icmp_gt (zx := 0) (zy := x_195.toInt) (tgt := 1385) hx hb (by decide) rfl dL_law_24 (by decide) (fun c1 => ?_) (fun c1 => ?_)
  · refine lv_iconst (v := 1) hx hb dL_law_1385 (by decide) ?_
    refine va_forget (fun q hq => hW.2.2.2.1.2.2 q hq) ?_
    refine W.widen (k := 600000) (n := 7302250) (Nat.le_of_ble_eq_true rfl) (Nat.le_of_ble_eq_true rfl) ?_
    exact lw_ret hx hb hr hlocks dL_law_1386
  · have hL7 : LN = 7 := by omega
    refine lv_aload_n hx hb dL_law_27 rfl (lv_at hl 3 rfl) ?_
    refine lv_iload_n hx hb dL_law_28 rfl (lv_at hl 0 rfl) ?_
    refine va_sld hx hb hX hbl hbA hW.2.2.2.1 (vp_in_iff.mpr (by rw [hL7]; decide)) dL_law_29 ?_
    rw [show (0 : Int32).toNatClampNeg = 0 from by decide]
    refine lv_topi (fun x_196 ex_196 => ?_)
    refine lv_bipush (v := 31) hx hb dL_law_30 (by decide) ?_
    refine lv_iand hx hb dL_law_32 ?_
    refine lv_topi (fun x_197 ex_197 => ?_)
    rcases (show (x_197.toInt < 0 ∨ 30 < x_197.toInt) ∨ x_197.toInt = 0 ∨ x_197.toInt = 1 ∨ x_197.toInt = 2 ∨ x_197.toInt = 3 ∨ x_197.toInt = 4 ∨ x_197.toInt = 5 ∨ x_197.toInt = 6 ∨ x_197.toInt = 7 ∨ x_197.toInt = 8 ∨ x_197.toInt = 9 ∨ x_197.toInt = 10 ∨ x_197.toInt = 11 ∨ x_197.toInt = 12 ∨ x_197.toInt = 13 ∨ x_197.toInt = 14 ∨ x_197.toInt = 15 ∨ x_197.toInt = 16 ∨ x_197.toInt = 17 ∨ x_197.toInt = 18 ∨ x_197.toInt = 19 ∨ x_197.toInt = 20 ∨ x_197.toInt = 21 ∨ x_197.toInt = 22 ∨ x_197.toInt = 23 ∨ x_197.toInt = 24 ∨ x_197.toInt = 25 ∨ x_197.toInt = 26 ∨ x_197.toInt = 27 ∨ x_197.toInt = 28 ∨ x_197.toInt = 29 ∨ x_197.toInt = 30 from by omega) with c_198 | c_198 | c_198 | c_198 | c_198 | c_198 | c_198 | c_198 | c_198 | c_198 | c_198 | c_198 | c_198 | c_198 | c_198 | c_198 | c_198 | c_198 | c_198 | c_198 | c_198 | c_198 | c_198 | c_198 | c_198 | c_198 | c_198 | c_198 | c_198 | c_198 | c_198 | c_198
    · refine lv_tableOut (tgt := 1379) hx hb dL_law_33 c_198 (by decide) ?_
      exact law_tail hx hb hr hlocks hX hbl hbA hL7 _ _ hW.2.2.2.1 ls hl (Nat.le_of_ble_eq_true rfl) (Nat.le_of_ble_eq_true rfl)
    · obtain rfl : x_197 = (0 : Int32) := Int32.toInt_inj.mp (c_198.trans (by decide))
      refine lv_tableIn (off := 139) (tgt := 172) hx hb dL_law_33 (by decide) (by decide) rfl (by decide) ?_
      exact law_case_0 l hx hb hr hlocks hml hown hts hX hbl hbA hL7 dC dI dA b0 q_2 q_27 q_29 q_31 q_34 q_37 q_39 q_41 q_44 q_47 q_50 q_53 q_55 q_60 q_163 q_165 q_168 q_170 q_172 q_174 q_176 q_178 q_180 q_182 q_184 q_186 q_188 q_190 q_192 L_159 h_160 _ _ ls hW hZ f_4 f_5 f_9 f_11 f_14 f_16 f_28 f_30 f_32 f_33 f_35 f_38 f_40 f_42 f_43 f_45 f_46 f_48 f_49 f_51 f_52 f_54 f_56 f_57 f_58 f_61 f_62 f_68 f_69 f_70 f_71 f_72 f_74 f_81 f_90 f_97 f_118 f_120 f_128 f_129 f_130 f_131 f_132 f_133 f_136 f_144 f_145 f_147 f_148 f_151 f_153 f_156 f_157 f_164 f_166 f_169 f_171 f_173 f_175 f_177 f_179 f_181 f_183 f_185 f_187 f_189 f_191 f_193 fa_36 fa_167 gq_2 gq_27 gq_29 gq_31 gq_34 gq_37 gq_39 gq_41 gq_44 gq_47 gq_50 gq_53 gq_55 gq_60 gq_163 gq_165 gq_168 gq_170 gq_172 gq_174 gq_176 gq_178 gq_180 gq_182 gq_184 gq_186 gq_188 gq_190 gq_192 hl
    · obtain rfl : x_197 = (1 : Int32) := Int32.toInt_inj.mp (c_198.trans (by decide))
      refine lv_tableIn (off := 162) (tgt := 195) hx hb dL_law_33 (by decide) (by decide) rfl (by decide) ?_
      exact law_case_1 l hx hb hr hlocks hml hown hts hX hbl hbA hL7 dC dI dA b0 q_2 q_27 q_29 q_31 q_34 q_37 q_39 q_41 q_44 q_47 q_50 q_53 q_55 q_60 q_163 q_165 q_168 q_170 q_172 q_174 q_176 q_178 q_180 q_182 q_184 q_186 q_188 q_190 q_192 L_159 h_160 _ _ ls hW hZ f_4 f_5 f_9 f_11 f_14 f_16 f_28 f_30 f_32 f_33 f_35 f_38 f_40 f_42 f_43 f_45 f_46 f_48 f_49 f_51 f_52 f_54 f_56 f_57 f_58 f_61 f_62 f_68 f_69 f_70 f_71 f_72 f_74 f_81 f_90 f_97 f_118 f_120 f_128 f_129 f_130 f_131 f_132 f_133 f_136 f_144 f_145 f_147 f_148 f_151 f_153 f_156 f_157 f_164 f_166 f_169 f_171 f_173 f_175 f_177 f_179 f_181 f_183 f_185 f_187 f_189 f_191 f_193 fa_36 fa_167 gq_2 gq_27 gq_29 gq_31 gq_34 gq_37 gq_39 gq_41 gq_44 gq_47 gq_50 gq_53 gq_55 gq_60 gq_163 gq_165 gq_168 gq_170 gq_172 gq_174 gq_176 gq_178 gq_180 gq_182 gq_184 gq_186 gq_188 gq_190 gq_192 hl
    · obtain rfl : x_197 = (2 : Int32) := Int32.toInt_inj.mp (c_198.trans (by decide))
      refine lv_tableIn (off := 225) (tgt := 258) hx hb dL_law_33 (by decide) (by decide) rfl (by decide) ?_
      exact law_case_2 l hx hb hr hlocks hml hown hts hX hbl hbA hL7 dC dI dA b0 q_2 q_27 q_29 q_31 q_34 q_37 q_39 q_41 q_44 q_47 q_50 q_53 q_55 q_60 q_163 q_165 q_168 q_170 q_172 q_174 q_176 q_178 q_180 q_182 q_184 q_186 q_188 q_190 q_192 L_159 h_160 _ _ ls hW hZ f_4 f_5 f_9 f_11 f_14 f_16 f_28 f_30 f_32 f_33 f_35 f_38 f_40 f_42 f_43 f_45 f_46 f_48 f_49 f_51 f_52 f_54 f_56 f_57 f_58 f_61 f_62 f_68 f_69 f_70 f_71 f_72 f_74 f_81 f_90 f_97 f_118 f_120 f_128 f_129 f_130 f_131 f_132 f_133 f_136 f_144 f_145 f_147 f_148 f_151 f_153 f_156 f_157 f_164 f_166 f_169 f_171 f_173 f_175 f_177 f_179 f_181 f_183 f_185 f_187 f_189 f_191 f_193 fa_36 fa_167 gq_2 gq_27 gq_29 gq_31 gq_34 gq_37 gq_39 gq_41 gq_44 gq_47 gq_50 gq_53 gq_55 gq_60 gq_163 gq_165 gq_168 gq_170 gq_172 gq_174 gq_176 gq_178 gq_180 gq_182 gq_184 gq_186 gq_188 gq_190 gq_192 hl
    · obtain rfl : x_197 = (3 : Int32) := Int32.toInt_inj.mp (c_198.trans (by decide))
      refine lv_tableIn (off := 248) (tgt := 281) hx hb dL_law_33 (by decide) (by decide) rfl (by decide) ?_
      exact law_case_3 l hx hb hr hlocks hml hown hts hX hbl hbA hL7 dC dI dA b0 q_2 q_27 q_29 q_31 q_34 q_37 q_39 q_41 q_44 q_47 q_50 q_53 q_55 q_60 q_163 q_165 q_168 q_170 q_172 q_174 q_176 q_178 q_180 q_182 q_184 q_186 q_188 q_190 q_192 L_159 h_160 _ _ ls hW hZ f_4 f_5 f_9 f_11 f_14 f_16 f_28 f_30 f_32 f_33 f_35 f_38 f_40 f_42 f_43 f_45 f_46 f_48 f_49 f_51 f_52 f_54 f_56 f_57 f_58 f_61 f_62 f_68 f_69 f_70 f_71 f_72 f_74 f_81 f_90 f_97 f_118 f_120 f_128 f_129 f_130 f_131 f_132 f_133 f_136 f_144 f_145 f_147 f_148 f_151 f_153 f_156 f_157 f_164 f_166 f_169 f_171 f_173 f_175 f_177 f_179 f_181 f_183 f_185 f_187 f_189 f_191 f_193 fa_36 fa_167 gq_2 gq_27 gq_29 gq_31 gq_34 gq_37 gq_39 gq_41 gq_44 gq_47 gq_50 gq_53 gq_55 gq_60 gq_163 gq_165 gq_168 gq_170 gq_172 gq_174 gq_176 gq_178 gq_180 gq_182 gq_184 gq_186 gq_188 gq_190 gq_192 hl
    · obtain rfl : x_197 = (4 : Int32) := Int32.toInt_inj.mp (c_198.trans (by decide))
      refine lv_tableIn (off := 271) (tgt := 304) hx hb dL_law_33 (by decide) (by decide) rfl (by decide) ?_
      exact law_case_4 l hx hb hr hlocks hml hown hts hX hbl hbA hL7 dC dI dA b0 q_2 q_27 q_29 q_31 q_34 q_37 q_39 q_41 q_44 q_47 q_50 q_53 q_55 q_60 q_163 q_165 q_168 q_170 q_172 q_174 q_176 q_178 q_180 q_182 q_184 q_186 q_188 q_190 q_192 L_159 h_160 _ _ ls hW hZ f_4 f_5 f_9 f_11 f_14 f_16 f_28 f_30 f_32 f_33 f_35 f_38 f_40 f_42 f_43 f_45 f_46 f_48 f_49 f_51 f_52 f_54 f_56 f_57 f_58 f_61 f_62 f_68 f_69 f_70 f_71 f_72 f_74 f_81 f_90 f_97 f_118 f_120 f_128 f_129 f_130 f_131 f_132 f_133 f_136 f_144 f_145 f_147 f_148 f_151 f_153 f_156 f_157 f_164 f_166 f_169 f_171 f_173 f_175 f_177 f_179 f_181 f_183 f_185 f_187 f_189 f_191 f_193 fa_36 fa_167 gq_2 gq_27 gq_29 gq_31 gq_34 gq_37 gq_39 gq_41 gq_44 gq_47 gq_50 gq_53 gq_55 gq_60 gq_163 gq_165 gq_168 gq_170 gq_172 gq_174 gq_176 gq_178 gq_180 gq_182 gq_184 gq_186 gq_188 gq_190 gq_192 hl
    · obtain rfl : x_197 = (5 : Int32) := Int32.toInt_inj.mp (c_198.trans (by decide))
      refine lv_tableIn (off := 304) (tgt := 337) hx hb dL_law_33 (by decide) (by decide) rfl (by decide) ?_
      exact law_case_5 l hx hb hr hlocks hml hown hts hX hbl hbA hL7 dC dI dA b0 q_2 q_27 q_29 q_31 q_34 q_37 q_39 q_41 q_44 q_47 q_50 q_53 q_55 q_60 q_163 q_165 q_168 q_170 q_172 q_174 q_176 q_178 q_180 q_182 q_184 q_186 q_188 q_190 q_192 L_159 h_160 _ _ ls hW hZ f_4 f_5 f_9 f_11 f_14 f_16 f_28 f_30 f_32 f_33 f_35 f_38 f_40 f_42 f_43 f_45 f_46 f_48 f_49 f_51 f_52 f_54 f_56 f_57 f_58 f_61 f_62 f_68 f_69 f_70 f_71 f_72 f_74 f_81 f_90 f_97 f_118 f_120 f_128 f_129 f_130 f_131 f_132 f_133 f_136 f_144 f_145 f_147 f_148 f_151 f_153 f_156 f_157 f_164 f_166 f_169 f_171 f_173 f_175 f_177 f_179 f_181 f_183 f_185 f_187 f_189 f_191 f_193 fa_36 fa_167 gq_2 gq_27 gq_29 gq_31 gq_34 gq_37 gq_39 gq_41 gq_44 gq_47 gq_50 gq_53 gq_55 gq_60 gq_163 gq_165 gq_168 gq_170 gq_172 gq_174 gq_176 gq_178 gq_180 gq_182 gq_184 gq_186 gq_188 gq_190 gq_192 hl
    · obtain rfl : x_197 = (6 : Int32) := Int32.toInt_inj.mp (c_198.trans (by decide))
      refine lv_tableIn (off := 379) (tgt := 412) hx hb dL_law_33 (by decide) (by decide) rfl (by decide) ?_
      exact law_case_6 l hx hb hr hlocks hml hown hts hX hbl hbA hL7 dC dI dA b0 q_2 q_27 q_29 q_31 q_34 q_37 q_39 q_41 q_44 q_47 q_50 q_53 q_55 q_60 q_163 q_165 q_168 q_170 q_172 q_174 q_176 q_178 q_180 q_182 q_184 q_186 q_188 q_190 q_192 L_159 h_160 _ _ ls hW hZ f_4 f_5 f_9 f_11 f_14 f_16 f_28 f_30 f_32 f_33 f_35 f_38 f_40 f_42 f_43 f_45 f_46 f_48 f_49 f_51 f_52 f_54 f_56 f_57 f_58 f_61 f_62 f_68 f_69 f_70 f_71 f_72 f_74 f_81 f_90 f_97 f_118 f_120 f_128 f_129 f_130 f_131 f_132 f_133 f_136 f_144 f_145 f_147 f_148 f_151 f_153 f_156 f_157 f_164 f_166 f_169 f_171 f_173 f_175 f_177 f_179 f_181 f_183 f_185 f_187 f_189 f_191 f_193 fa_36 fa_167 gq_2 gq_27 gq_29 gq_31 gq_34 gq_37 gq_39 gq_41 gq_44 gq_47 gq_50 gq_53 gq_55 gq_60 gq_163 gq_165 gq_168 gq_170 gq_172 gq_174 gq_176 gq_178 gq_180 gq_182 gq_184 gq_186 gq_188 gq_190 gq_192 hl
    · obtain rfl : x_197 = (7 : Int32) := Int32.toInt_inj.mp (c_198.trans (by decide))
      refine lv_tableIn (off := 442) (tgt := 475) hx hb dL_law_33 (by decide) (by decide) rfl (by decide) ?_
      exact law_case_7 l hx hb hr hlocks hml hown hts hX hbl hbA hL7 dC dI dA b0 q_2 q_27 q_29 q_31 q_34 q_37 q_39 q_41 q_44 q_47 q_50 q_53 q_55 q_60 q_163 q_165 q_168 q_170 q_172 q_174 q_176 q_178 q_180 q_182 q_184 q_186 q_188 q_190 q_192 L_159 h_160 _ _ ls hW hZ f_4 f_5 f_9 f_11 f_14 f_16 f_28 f_30 f_32 f_33 f_35 f_38 f_40 f_42 f_43 f_45 f_46 f_48 f_49 f_51 f_52 f_54 f_56 f_57 f_58 f_61 f_62 f_68 f_69 f_70 f_71 f_72 f_74 f_81 f_90 f_97 f_118 f_120 f_128 f_129 f_130 f_131 f_132 f_133 f_136 f_144 f_145 f_147 f_148 f_151 f_153 f_156 f_157 f_164 f_166 f_169 f_171 f_173 f_175 f_177 f_179 f_181 f_183 f_185 f_187 f_189 f_191 f_193 fa_36 fa_167 gq_2 gq_27 gq_29 gq_31 gq_34 gq_37 gq_39 gq_41 gq_44 gq_47 gq_50 gq_53 gq_55 gq_60 gq_163 gq_165 gq_168 gq_170 gq_172 gq_174 gq_176 gq_178 gq_180 gq_182 gq_184 gq_186 gq_188 gq_190 gq_192 hl
    · obtain rfl : x_197 = (8 : Int32) := Int32.toInt_inj.mp (c_198.trans (by decide))
      refine lv_tableIn (off := 465) (tgt := 498) hx hb dL_law_33 (by decide) (by decide) rfl (by decide) ?_
      exact law_case_8 l hx hb hr hlocks hml hown hts hX hbl hbA hL7 dC dI dA b0 q_2 q_27 q_29 q_31 q_34 q_37 q_39 q_41 q_44 q_47 q_50 q_53 q_55 q_60 q_163 q_165 q_168 q_170 q_172 q_174 q_176 q_178 q_180 q_182 q_184 q_186 q_188 q_190 q_192 L_159 h_160 _ _ ls hW hZ f_4 f_5 f_9 f_11 f_14 f_16 f_28 f_30 f_32 f_33 f_35 f_38 f_40 f_42 f_43 f_45 f_46 f_48 f_49 f_51 f_52 f_54 f_56 f_57 f_58 f_61 f_62 f_68 f_69 f_70 f_71 f_72 f_74 f_81 f_90 f_97 f_118 f_120 f_128 f_129 f_130 f_131 f_132 f_133 f_136 f_144 f_145 f_147 f_148 f_151 f_153 f_156 f_157 f_164 f_166 f_169 f_171 f_173 f_175 f_177 f_179 f_181 f_183 f_185 f_187 f_189 f_191 f_193 fa_36 fa_167 gq_2 gq_27 gq_29 gq_31 gq_34 gq_37 gq_39 gq_41 gq_44 gq_47 gq_50 gq_53 gq_55 gq_60 gq_163 gq_165 gq_168 gq_170 gq_172 gq_174 gq_176 gq_178 gq_180 gq_182 gq_184 gq_186 gq_188 gq_190 gq_192 hl
    · obtain rfl : x_197 = (9 : Int32) := Int32.toInt_inj.mp (c_198.trans (by decide))
      refine lv_tableIn (off := 514) (tgt := 547) hx hb dL_law_33 (by decide) (by decide) rfl (by decide) ?_
      exact law_case_9 l hx hb hr hlocks hml hown hts hX hbl hbA hL7 dC dI dA b0 q_2 q_27 q_29 q_31 q_34 q_37 q_39 q_41 q_44 q_47 q_50 q_53 q_55 q_60 q_163 q_165 q_168 q_170 q_172 q_174 q_176 q_178 q_180 q_182 q_184 q_186 q_188 q_190 q_192 L_159 h_160 _ _ ls hW hZ f_4 f_5 f_9 f_11 f_14 f_16 f_28 f_30 f_32 f_33 f_35 f_38 f_40 f_42 f_43 f_45 f_46 f_48 f_49 f_51 f_52 f_54 f_56 f_57 f_58 f_61 f_62 f_68 f_69 f_70 f_71 f_72 f_74 f_81 f_90 f_97 f_118 f_120 f_128 f_129 f_130 f_131 f_132 f_133 f_136 f_144 f_145 f_147 f_148 f_151 f_153 f_156 f_157 f_164 f_166 f_169 f_171 f_173 f_175 f_177 f_179 f_181 f_183 f_185 f_187 f_189 f_191 f_193 fa_36 fa_167 gq_2 gq_27 gq_29 gq_31 gq_34 gq_37 gq_39 gq_41 gq_44 gq_47 gq_50 gq_53 gq_55 gq_60 gq_163 gq_165 gq_168 gq_170 gq_172 gq_174 gq_176 gq_178 gq_180 gq_182 gq_184 gq_186 gq_188 gq_190 gq_192 hl
    · obtain rfl : x_197 = (10 : Int32) := Int32.toInt_inj.mp (c_198.trans (by decide))
      refine lv_tableIn (off := 577) (tgt := 610) hx hb dL_law_33 (by decide) (by decide) rfl (by decide) ?_
      exact law_case_10 l hx hb hr hlocks hml hown hts hX hbl hbA hL7 dC dI dA b0 q_2 q_27 q_29 q_31 q_34 q_37 q_39 q_41 q_44 q_47 q_50 q_53 q_55 q_60 q_163 q_165 q_168 q_170 q_172 q_174 q_176 q_178 q_180 q_182 q_184 q_186 q_188 q_190 q_192 L_159 h_160 _ _ ls hW hZ f_4 f_5 f_9 f_11 f_14 f_16 f_28 f_30 f_32 f_33 f_35 f_38 f_40 f_42 f_43 f_45 f_46 f_48 f_49 f_51 f_52 f_54 f_56 f_57 f_58 f_61 f_62 f_68 f_69 f_70 f_71 f_72 f_74 f_81 f_90 f_97 f_118 f_120 f_128 f_129 f_130 f_131 f_132 f_133 f_136 f_144 f_145 f_147 f_148 f_151 f_153 f_156 f_157 f_164 f_166 f_169 f_171 f_173 f_175 f_177 f_179 f_181 f_183 f_185 f_187 f_189 f_191 f_193 fa_36 fa_167 gq_2 gq_27 gq_29 gq_31 gq_34 gq_37 gq_39 gq_41 gq_44 gq_47 gq_50 gq_53 gq_55 gq_60 gq_163 gq_165 gq_168 gq_170 gq_172 gq_174 gq_176 gq_178 gq_180 gq_182 gq_184 gq_186 gq_188 gq_190 gq_192 hl
    · obtain rfl : x_197 = (11 : Int32) := Int32.toInt_inj.mp (c_198.trans (by decide))
      refine lv_tableIn (off := 630) (tgt := 663) hx hb dL_law_33 (by decide) (by decide) rfl (by decide) ?_
      exact law_case_11 l hx hb hr hlocks hml hown hts hX hbl hbA hL7 dC dI dA b0 q_2 q_27 q_29 q_31 q_34 q_37 q_39 q_41 q_44 q_47 q_50 q_53 q_55 q_60 q_163 q_165 q_168 q_170 q_172 q_174 q_176 q_178 q_180 q_182 q_184 q_186 q_188 q_190 q_192 L_159 h_160 _ _ ls hW hZ f_4 f_5 f_9 f_11 f_14 f_16 f_28 f_30 f_32 f_33 f_35 f_38 f_40 f_42 f_43 f_45 f_46 f_48 f_49 f_51 f_52 f_54 f_56 f_57 f_58 f_61 f_62 f_68 f_69 f_70 f_71 f_72 f_74 f_81 f_90 f_97 f_118 f_120 f_128 f_129 f_130 f_131 f_132 f_133 f_136 f_144 f_145 f_147 f_148 f_151 f_153 f_156 f_157 f_164 f_166 f_169 f_171 f_173 f_175 f_177 f_179 f_181 f_183 f_185 f_187 f_189 f_191 f_193 fa_36 fa_167 gq_2 gq_27 gq_29 gq_31 gq_34 gq_37 gq_39 gq_41 gq_44 gq_47 gq_50 gq_53 gq_55 gq_60 gq_163 gq_165 gq_168 gq_170 gq_172 gq_174 gq_176 gq_178 gq_180 gq_182 gq_184 gq_186 gq_188 gq_190 gq_192 hl
    · obtain rfl : x_197 = (12 : Int32) := Int32.toInt_inj.mp (c_198.trans (by decide))
      refine lv_tableIn (off := 721) (tgt := 754) hx hb dL_law_33 (by decide) (by decide) rfl (by decide) ?_
      exact law_case_12 l hx hb hr hlocks hml hown hts hX hbl hbA hL7 dC dI dA b0 q_2 q_27 q_29 q_31 q_34 q_37 q_39 q_41 q_44 q_47 q_50 q_53 q_55 q_60 q_163 q_165 q_168 q_170 q_172 q_174 q_176 q_178 q_180 q_182 q_184 q_186 q_188 q_190 q_192 L_159 h_160 _ _ ls hW hZ f_4 f_5 f_9 f_11 f_14 f_16 f_28 f_30 f_32 f_33 f_35 f_38 f_40 f_42 f_43 f_45 f_46 f_48 f_49 f_51 f_52 f_54 f_56 f_57 f_58 f_61 f_62 f_68 f_69 f_70 f_71 f_72 f_74 f_81 f_90 f_97 f_118 f_120 f_128 f_129 f_130 f_131 f_132 f_133 f_136 f_144 f_145 f_147 f_148 f_151 f_153 f_156 f_157 f_164 f_166 f_169 f_171 f_173 f_175 f_177 f_179 f_181 f_183 f_185 f_187 f_189 f_191 f_193 fa_36 fa_167 gq_2 gq_27 gq_29 gq_31 gq_34 gq_37 gq_39 gq_41 gq_44 gq_47 gq_50 gq_53 gq_55 gq_60 gq_163 gq_165 gq_168 gq_170 gq_172 gq_174 gq_176 gq_178 gq_180 gq_182 gq_184 gq_186 gq_188 gq_190 gq_192 hl
    · obtain rfl : x_197 = (13 : Int32) := Int32.toInt_inj.mp (c_198.trans (by decide))
      refine lv_tableIn (off := 770) (tgt := 803) hx hb dL_law_33 (by decide) (by decide) rfl (by decide) ?_
      exact law_case_13 l hx hb hr hlocks hml hown hts hX hbl hbA hL7 dC dI dA b0 q_2 q_27 q_29 q_31 q_34 q_37 q_39 q_41 q_44 q_47 q_50 q_53 q_55 q_60 q_163 q_165 q_168 q_170 q_172 q_174 q_176 q_178 q_180 q_182 q_184 q_186 q_188 q_190 q_192 L_159 h_160 _ _ ls hW hZ f_4 f_5 f_9 f_11 f_14 f_16 f_28 f_30 f_32 f_33 f_35 f_38 f_40 f_42 f_43 f_45 f_46 f_48 f_49 f_51 f_52 f_54 f_56 f_57 f_58 f_61 f_62 f_68 f_69 f_70 f_71 f_72 f_74 f_81 f_90 f_97 f_118 f_120 f_128 f_129 f_130 f_131 f_132 f_133 f_136 f_144 f_145 f_147 f_148 f_151 f_153 f_156 f_157 f_164 f_166 f_169 f_171 f_173 f_175 f_177 f_179 f_181 f_183 f_185 f_187 f_189 f_191 f_193 fa_36 fa_167 gq_2 gq_27 gq_29 gq_31 gq_34 gq_37 gq_39 gq_41 gq_44 gq_47 gq_50 gq_53 gq_55 gq_60 gq_163 gq_165 gq_168 gq_170 gq_172 gq_174 gq_176 gq_178 gq_180 gq_182 gq_184 gq_186 gq_188 gq_190 gq_192 hl
    · obtain rfl : x_197 = (14 : Int32) := Int32.toInt_inj.mp (c_198.trans (by decide))
      refine lv_tableIn (off := 855) (tgt := 888) hx hb dL_law_33 (by decide) (by decide) rfl (by decide) ?_
      exact law_case_14 l hx hb hr hlocks hml hown hts hX hbl hbA hL7 dC dI dA b0 q_2 q_27 q_29 q_31 q_34 q_37 q_39 q_41 q_44 q_47 q_50 q_53 q_55 q_60 q_163 q_165 q_168 q_170 q_172 q_174 q_176 q_178 q_180 q_182 q_184 q_186 q_188 q_190 q_192 L_159 h_160 _ _ ls hW hZ f_4 f_5 f_9 f_11 f_14 f_16 f_28 f_30 f_32 f_33 f_35 f_38 f_40 f_42 f_43 f_45 f_46 f_48 f_49 f_51 f_52 f_54 f_56 f_57 f_58 f_61 f_62 f_68 f_69 f_70 f_71 f_72 f_74 f_81 f_90 f_97 f_118 f_120 f_128 f_129 f_130 f_131 f_132 f_133 f_136 f_144 f_145 f_147 f_148 f_151 f_153 f_156 f_157 f_164 f_166 f_169 f_171 f_173 f_175 f_177 f_179 f_181 f_183 f_185 f_187 f_189 f_191 f_193 fa_36 fa_167 gq_2 gq_27 gq_29 gq_31 gq_34 gq_37 gq_39 gq_41 gq_44 gq_47 gq_50 gq_53 gq_55 gq_60 gq_163 gq_165 gq_168 gq_170 gq_172 gq_174 gq_176 gq_178 gq_180 gq_182 gq_184 gq_186 gq_188 gq_190 gq_192 hl
    · obtain rfl : x_197 = (15 : Int32) := Int32.toInt_inj.mp (c_198.trans (by decide))
      refine lv_tableIn (off := 888) (tgt := 921) hx hb dL_law_33 (by decide) (by decide) rfl (by decide) ?_
      exact law_case_15 l hx hb hr hlocks hml hown hts hX hbl hbA hL7 dC dI dA b0 q_2 q_27 q_29 q_31 q_34 q_37 q_39 q_41 q_44 q_47 q_50 q_53 q_55 q_60 q_163 q_165 q_168 q_170 q_172 q_174 q_176 q_178 q_180 q_182 q_184 q_186 q_188 q_190 q_192 L_159 h_160 _ _ ls hW hZ f_4 f_5 f_9 f_11 f_14 f_16 f_28 f_30 f_32 f_33 f_35 f_38 f_40 f_42 f_43 f_45 f_46 f_48 f_49 f_51 f_52 f_54 f_56 f_57 f_58 f_61 f_62 f_68 f_69 f_70 f_71 f_72 f_74 f_81 f_90 f_97 f_118 f_120 f_128 f_129 f_130 f_131 f_132 f_133 f_136 f_144 f_145 f_147 f_148 f_151 f_153 f_156 f_157 f_164 f_166 f_169 f_171 f_173 f_175 f_177 f_179 f_181 f_183 f_185 f_187 f_189 f_191 f_193 fa_36 fa_167 gq_2 gq_27 gq_29 gq_31 gq_34 gq_37 gq_39 gq_41 gq_44 gq_47 gq_50 gq_53 gq_55 gq_60 gq_163 gq_165 gq_168 gq_170 gq_172 gq_174 gq_176 gq_178 gq_180 gq_182 gq_184 gq_186 gq_188 gq_190 gq_192 hl
    · obtain rfl : x_197 = (16 : Int32) := Int32.toInt_inj.mp (c_198.trans (by decide))
      refine lv_tableIn (off := 931) (tgt := 964) hx hb dL_law_33 (by decide) (by decide) rfl (by decide) ?_
      exact law_case_16 l hx hb hr hlocks hml hown hts hX hbl hbA hL7 dC dI dA b0 q_2 q_27 q_29 q_31 q_34 q_37 q_39 q_41 q_44 q_47 q_50 q_53 q_55 q_60 q_163 q_165 q_168 q_170 q_172 q_174 q_176 q_178 q_180 q_182 q_184 q_186 q_188 q_190 q_192 L_159 h_160 _ _ ls hW hZ f_4 f_5 f_9 f_11 f_14 f_16 f_28 f_30 f_32 f_33 f_35 f_38 f_40 f_42 f_43 f_45 f_46 f_48 f_49 f_51 f_52 f_54 f_56 f_57 f_58 f_61 f_62 f_68 f_69 f_70 f_71 f_72 f_74 f_81 f_90 f_97 f_118 f_120 f_128 f_129 f_130 f_131 f_132 f_133 f_136 f_144 f_145 f_147 f_148 f_151 f_153 f_156 f_157 f_164 f_166 f_169 f_171 f_173 f_175 f_177 f_179 f_181 f_183 f_185 f_187 f_189 f_191 f_193 fa_36 fa_167 gq_2 gq_27 gq_29 gq_31 gq_34 gq_37 gq_39 gq_41 gq_44 gq_47 gq_50 gq_53 gq_55 gq_60 gq_163 gq_165 gq_168 gq_170 gq_172 gq_174 gq_176 gq_178 gq_180 gq_182 gq_184 gq_186 gq_188 gq_190 gq_192 hl
    · obtain rfl : x_197 = (17 : Int32) := Int32.toInt_inj.mp (c_198.trans (by decide))
      refine lv_tableIn (off := 954) (tgt := 987) hx hb dL_law_33 (by decide) (by decide) rfl (by decide) ?_
      exact law_case_17 l hx hb hr hlocks hml hown hts hX hbl hbA hL7 dC dI dA b0 q_2 q_27 q_29 q_31 q_34 q_37 q_39 q_41 q_44 q_47 q_50 q_53 q_55 q_60 q_163 q_165 q_168 q_170 q_172 q_174 q_176 q_178 q_180 q_182 q_184 q_186 q_188 q_190 q_192 L_159 h_160 _ _ ls hW hZ f_4 f_5 f_9 f_11 f_14 f_16 f_28 f_30 f_32 f_33 f_35 f_38 f_40 f_42 f_43 f_45 f_46 f_48 f_49 f_51 f_52 f_54 f_56 f_57 f_58 f_61 f_62 f_68 f_69 f_70 f_71 f_72 f_74 f_81 f_90 f_97 f_118 f_120 f_128 f_129 f_130 f_131 f_132 f_133 f_136 f_144 f_145 f_147 f_148 f_151 f_153 f_156 f_157 f_164 f_166 f_169 f_171 f_173 f_175 f_177 f_179 f_181 f_183 f_185 f_187 f_189 f_191 f_193 fa_36 fa_167 gq_2 gq_27 gq_29 gq_31 gq_34 gq_37 gq_39 gq_41 gq_44 gq_47 gq_50 gq_53 gq_55 gq_60 gq_163 gq_165 gq_168 gq_170 gq_172 gq_174 gq_176 gq_178 gq_180 gq_182 gq_184 gq_186 gq_188 gq_190 gq_192 hl
    · obtain rfl : x_197 = (18 : Int32) := Int32.toInt_inj.mp (c_198.trans (by decide))
      refine lv_tableIn (off := 987) (tgt := 1020) hx hb dL_law_33 (by decide) (by decide) rfl (by decide) ?_
      exact law_case_18 l hx hb hr hlocks hml hown hts hX hbl hbA hL7 dC dI dA b0 q_2 q_27 q_29 q_31 q_34 q_37 q_39 q_41 q_44 q_47 q_50 q_53 q_55 q_60 q_163 q_165 q_168 q_170 q_172 q_174 q_176 q_178 q_180 q_182 q_184 q_186 q_188 q_190 q_192 L_159 h_160 _ _ ls hW hZ f_4 f_5 f_9 f_11 f_14 f_16 f_28 f_30 f_32 f_33 f_35 f_38 f_40 f_42 f_43 f_45 f_46 f_48 f_49 f_51 f_52 f_54 f_56 f_57 f_58 f_61 f_62 f_68 f_69 f_70 f_71 f_72 f_74 f_81 f_90 f_97 f_118 f_120 f_128 f_129 f_130 f_131 f_132 f_133 f_136 f_144 f_145 f_147 f_148 f_151 f_153 f_156 f_157 f_164 f_166 f_169 f_171 f_173 f_175 f_177 f_179 f_181 f_183 f_185 f_187 f_189 f_191 f_193 fa_36 fa_167 gq_2 gq_27 gq_29 gq_31 gq_34 gq_37 gq_39 gq_41 gq_44 gq_47 gq_50 gq_53 gq_55 gq_60 gq_163 gq_165 gq_168 gq_170 gq_172 gq_174 gq_176 gq_178 gq_180 gq_182 gq_184 gq_186 gq_188 gq_190 gq_192 hl
    · obtain rfl : x_197 = (19 : Int32) := Int32.toInt_inj.mp (c_198.trans (by decide))
      refine lv_tableIn (off := 1010) (tgt := 1043) hx hb dL_law_33 (by decide) (by decide) rfl (by decide) ?_
      exact law_case_19 l hx hb hr hlocks hml hown hts hX hbl hbA hL7 dC dI dA b0 q_2 q_27 q_29 q_31 q_34 q_37 q_39 q_41 q_44 q_47 q_50 q_53 q_55 q_60 q_163 q_165 q_168 q_170 q_172 q_174 q_176 q_178 q_180 q_182 q_184 q_186 q_188 q_190 q_192 L_159 h_160 _ _ ls hW hZ f_4 f_5 f_9 f_11 f_14 f_16 f_28 f_30 f_32 f_33 f_35 f_38 f_40 f_42 f_43 f_45 f_46 f_48 f_49 f_51 f_52 f_54 f_56 f_57 f_58 f_61 f_62 f_68 f_69 f_70 f_71 f_72 f_74 f_81 f_90 f_97 f_118 f_120 f_128 f_129 f_130 f_131 f_132 f_133 f_136 f_144 f_145 f_147 f_148 f_151 f_153 f_156 f_157 f_164 f_166 f_169 f_171 f_173 f_175 f_177 f_179 f_181 f_183 f_185 f_187 f_189 f_191 f_193 fa_36 fa_167 gq_2 gq_27 gq_29 gq_31 gq_34 gq_37 gq_39 gq_41 gq_44 gq_47 gq_50 gq_53 gq_55 gq_60 gq_163 gq_165 gq_168 gq_170 gq_172 gq_174 gq_176 gq_178 gq_180 gq_182 gq_184 gq_186 gq_188 gq_190 gq_192 hl
    · obtain rfl : x_197 = (20 : Int32) := Int32.toInt_inj.mp (c_198.trans (by decide))
      refine lv_tableIn (off := 1043) (tgt := 1076) hx hb dL_law_33 (by decide) (by decide) rfl (by decide) ?_
      exact law_case_20 l hx hb hr hlocks hml hown hts hX hbl hbA hL7 dC dI dA b0 q_2 q_27 q_29 q_31 q_34 q_37 q_39 q_41 q_44 q_47 q_50 q_53 q_55 q_60 q_163 q_165 q_168 q_170 q_172 q_174 q_176 q_178 q_180 q_182 q_184 q_186 q_188 q_190 q_192 L_159 h_160 _ _ ls hW hZ f_4 f_5 f_9 f_11 f_14 f_16 f_28 f_30 f_32 f_33 f_35 f_38 f_40 f_42 f_43 f_45 f_46 f_48 f_49 f_51 f_52 f_54 f_56 f_57 f_58 f_61 f_62 f_68 f_69 f_70 f_71 f_72 f_74 f_81 f_90 f_97 f_118 f_120 f_128 f_129 f_130 f_131 f_132 f_133 f_136 f_144 f_145 f_147 f_148 f_151 f_153 f_156 f_157 f_164 f_166 f_169 f_171 f_173 f_175 f_177 f_179 f_181 f_183 f_185 f_187 f_189 f_191 f_193 fa_36 fa_167 gq_2 gq_27 gq_29 gq_31 gq_34 gq_37 gq_39 gq_41 gq_44 gq_47 gq_50 gq_53 gq_55 gq_60 gq_163 gq_165 gq_168 gq_170 gq_172 gq_174 gq_176 gq_178 gq_180 gq_182 gq_184 gq_186 gq_188 gq_190 gq_192 hl
    · obtain rfl : x_197 = (21 : Int32) := Int32.toInt_inj.mp (c_198.trans (by decide))
      refine lv_tableIn (off := 1096) (tgt := 1129) hx hb dL_law_33 (by decide) (by decide) rfl (by decide) ?_
      exact law_case_21 l hx hb hr hlocks hml hown hts hX hbl hbA hL7 dC dI dA b0 q_2 q_27 q_29 q_31 q_34 q_37 q_39 q_41 q_44 q_47 q_50 q_53 q_55 q_60 q_163 q_165 q_168 q_170 q_172 q_174 q_176 q_178 q_180 q_182 q_184 q_186 q_188 q_190 q_192 L_159 h_160 _ _ ls hW hZ f_4 f_5 f_9 f_11 f_14 f_16 f_28 f_30 f_32 f_33 f_35 f_38 f_40 f_42 f_43 f_45 f_46 f_48 f_49 f_51 f_52 f_54 f_56 f_57 f_58 f_61 f_62 f_68 f_69 f_70 f_71 f_72 f_74 f_81 f_90 f_97 f_118 f_120 f_128 f_129 f_130 f_131 f_132 f_133 f_136 f_144 f_145 f_147 f_148 f_151 f_153 f_156 f_157 f_164 f_166 f_169 f_171 f_173 f_175 f_177 f_179 f_181 f_183 f_185 f_187 f_189 f_191 f_193 fa_36 fa_167 gq_2 gq_27 gq_29 gq_31 gq_34 gq_37 gq_39 gq_41 gq_44 gq_47 gq_50 gq_53 gq_55 gq_60 gq_163 gq_165 gq_168 gq_170 gq_172 gq_174 gq_176 gq_178 gq_180 gq_182 gq_184 gq_186 gq_188 gq_190 gq_192 hl
    · obtain rfl : x_197 = (22 : Int32) := Int32.toInt_inj.mp (c_198.trans (by decide))
      refine lv_tableIn (off := 1129) (tgt := 1162) hx hb dL_law_33 (by decide) (by decide) rfl (by decide) ?_
      exact law_case_22 l hx hb hr hlocks hml hown hts hX hbl hbA hL7 dC dI dA b0 q_2 q_27 q_29 q_31 q_34 q_37 q_39 q_41 q_44 q_47 q_50 q_53 q_55 q_60 q_163 q_165 q_168 q_170 q_172 q_174 q_176 q_178 q_180 q_182 q_184 q_186 q_188 q_190 q_192 L_159 h_160 _ _ ls hW hZ f_4 f_5 f_9 f_11 f_14 f_16 f_28 f_30 f_32 f_33 f_35 f_38 f_40 f_42 f_43 f_45 f_46 f_48 f_49 f_51 f_52 f_54 f_56 f_57 f_58 f_61 f_62 f_68 f_69 f_70 f_71 f_72 f_74 f_81 f_90 f_97 f_118 f_120 f_128 f_129 f_130 f_131 f_132 f_133 f_136 f_144 f_145 f_147 f_148 f_151 f_153 f_156 f_157 f_164 f_166 f_169 f_171 f_173 f_175 f_177 f_179 f_181 f_183 f_185 f_187 f_189 f_191 f_193 fa_36 fa_167 gq_2 gq_27 gq_29 gq_31 gq_34 gq_37 gq_39 gq_41 gq_44 gq_47 gq_50 gq_53 gq_55 gq_60 gq_163 gq_165 gq_168 gq_170 gq_172 gq_174 gq_176 gq_178 gq_180 gq_182 gq_184 gq_186 gq_188 gq_190 gq_192 hl
    · obtain rfl : x_197 = (23 : Int32) := Int32.toInt_inj.mp (c_198.trans (by decide))
      refine lv_tableIn (off := 1162) (tgt := 1195) hx hb dL_law_33 (by decide) (by decide) rfl (by decide) ?_
      exact law_case_23 l hx hb hr hlocks hml hown hts hX hbl hbA hL7 dC dI dA b0 q_2 q_27 q_29 q_31 q_34 q_37 q_39 q_41 q_44 q_47 q_50 q_53 q_55 q_60 q_163 q_165 q_168 q_170 q_172 q_174 q_176 q_178 q_180 q_182 q_184 q_186 q_188 q_190 q_192 L_159 h_160 _ _ ls hW hZ f_4 f_5 f_9 f_11 f_14 f_16 f_28 f_30 f_32 f_33 f_35 f_38 f_40 f_42 f_43 f_45 f_46 f_48 f_49 f_51 f_52 f_54 f_56 f_57 f_58 f_61 f_62 f_68 f_69 f_70 f_71 f_72 f_74 f_81 f_90 f_97 f_118 f_120 f_128 f_129 f_130 f_131 f_132 f_133 f_136 f_144 f_145 f_147 f_148 f_151 f_153 f_156 f_157 f_164 f_166 f_169 f_171 f_173 f_175 f_177 f_179 f_181 f_183 f_185 f_187 f_189 f_191 f_193 fa_36 fa_167 gq_2 gq_27 gq_29 gq_31 gq_34 gq_37 gq_39 gq_41 gq_44 gq_47 gq_50 gq_53 gq_55 gq_60 gq_163 gq_165 gq_168 gq_170 gq_172 gq_174 gq_176 gq_178 gq_180 gq_182 gq_184 gq_186 gq_188 gq_190 gq_192 hl
    · obtain rfl : x_197 = (24 : Int32) := Int32.toInt_inj.mp (c_198.trans (by decide))
      refine lv_tableIn (off := 1175) (tgt := 1208) hx hb dL_law_33 (by decide) (by decide) rfl (by decide) ?_
      exact law_case_24 l hx hb hr hlocks hml hown hts hX hbl hbA hL7 dC dI dA b0 q_2 q_27 q_29 q_31 q_34 q_37 q_39 q_41 q_44 q_47 q_50 q_53 q_55 q_60 q_163 q_165 q_168 q_170 q_172 q_174 q_176 q_178 q_180 q_182 q_184 q_186 q_188 q_190 q_192 L_159 h_160 _ _ ls hW hZ f_4 f_5 f_9 f_11 f_14 f_16 f_28 f_30 f_32 f_33 f_35 f_38 f_40 f_42 f_43 f_45 f_46 f_48 f_49 f_51 f_52 f_54 f_56 f_57 f_58 f_61 f_62 f_68 f_69 f_70 f_71 f_72 f_74 f_81 f_90 f_97 f_118 f_120 f_128 f_129 f_130 f_131 f_132 f_133 f_136 f_144 f_145 f_147 f_148 f_151 f_153 f_156 f_157 f_164 f_166 f_169 f_171 f_173 f_175 f_177 f_179 f_181 f_183 f_185 f_187 f_189 f_191 f_193 fa_36 fa_167 gq_2 gq_27 gq_29 gq_31 gq_34 gq_37 gq_39 gq_41 gq_44 gq_47 gq_50 gq_53 gq_55 gq_60 gq_163 gq_165 gq_168 gq_170 gq_172 gq_174 gq_176 gq_178 gq_180 gq_182 gq_184 gq_186 gq_188 gq_190 gq_192 hl
    · obtain rfl : x_197 = (25 : Int32) := Int32.toInt_inj.mp (c_198.trans (by decide))
      refine lv_tableIn (off := 1198) (tgt := 1231) hx hb dL_law_33 (by decide) (by decide) rfl (by decide) ?_
      exact law_case_25 l hx hb hr hlocks hml hown hts hX hbl hbA hL7 dC dI dA b0 q_2 q_27 q_29 q_31 q_34 q_37 q_39 q_41 q_44 q_47 q_50 q_53 q_55 q_60 q_163 q_165 q_168 q_170 q_172 q_174 q_176 q_178 q_180 q_182 q_184 q_186 q_188 q_190 q_192 L_159 h_160 _ _ ls hW hZ f_4 f_5 f_9 f_11 f_14 f_16 f_28 f_30 f_32 f_33 f_35 f_38 f_40 f_42 f_43 f_45 f_46 f_48 f_49 f_51 f_52 f_54 f_56 f_57 f_58 f_61 f_62 f_68 f_69 f_70 f_71 f_72 f_74 f_81 f_90 f_97 f_118 f_120 f_128 f_129 f_130 f_131 f_132 f_133 f_136 f_144 f_145 f_147 f_148 f_151 f_153 f_156 f_157 f_164 f_166 f_169 f_171 f_173 f_175 f_177 f_179 f_181 f_183 f_185 f_187 f_189 f_191 f_193 fa_36 fa_167 gq_2 gq_27 gq_29 gq_31 gq_34 gq_37 gq_39 gq_41 gq_44 gq_47 gq_50 gq_53 gq_55 gq_60 gq_163 gq_165 gq_168 gq_170 gq_172 gq_174 gq_176 gq_178 gq_180 gq_182 gq_184 gq_186 gq_188 gq_190 gq_192 hl
    · obtain rfl : x_197 = (26 : Int32) := Int32.toInt_inj.mp (c_198.trans (by decide))
      refine lv_tableIn (off := 1221) (tgt := 1254) hx hb dL_law_33 (by decide) (by decide) rfl (by decide) ?_
      exact law_case_26 l hx hb hr hlocks hml hown hts hX hbl hbA hL7 dC dI dA b0 q_2 q_27 q_29 q_31 q_34 q_37 q_39 q_41 q_44 q_47 q_50 q_53 q_55 q_60 q_163 q_165 q_168 q_170 q_172 q_174 q_176 q_178 q_180 q_182 q_184 q_186 q_188 q_190 q_192 L_159 h_160 _ _ ls hW hZ f_4 f_5 f_9 f_11 f_14 f_16 f_28 f_30 f_32 f_33 f_35 f_38 f_40 f_42 f_43 f_45 f_46 f_48 f_49 f_51 f_52 f_54 f_56 f_57 f_58 f_61 f_62 f_68 f_69 f_70 f_71 f_72 f_74 f_81 f_90 f_97 f_118 f_120 f_128 f_129 f_130 f_131 f_132 f_133 f_136 f_144 f_145 f_147 f_148 f_151 f_153 f_156 f_157 f_164 f_166 f_169 f_171 f_173 f_175 f_177 f_179 f_181 f_183 f_185 f_187 f_189 f_191 f_193 fa_36 fa_167 gq_2 gq_27 gq_29 gq_31 gq_34 gq_37 gq_39 gq_41 gq_44 gq_47 gq_50 gq_53 gq_55 gq_60 gq_163 gq_165 gq_168 gq_170 gq_172 gq_174 gq_176 gq_178 gq_180 gq_182 gq_184 gq_186 gq_188 gq_190 gq_192 hl
    · obtain rfl : x_197 = (27 : Int32) := Int32.toInt_inj.mp (c_198.trans (by decide))
      refine lv_tableIn (off := 1234) (tgt := 1267) hx hb dL_law_33 (by decide) (by decide) rfl (by decide) ?_
      exact law_case_27 l hx hb hr hlocks hml hown hts hX hbl hbA hL7 dC dI dA b0 q_2 q_27 q_29 q_31 q_34 q_37 q_39 q_41 q_44 q_47 q_50 q_53 q_55 q_60 q_163 q_165 q_168 q_170 q_172 q_174 q_176 q_178 q_180 q_182 q_184 q_186 q_188 q_190 q_192 L_159 h_160 _ _ ls hW hZ f_4 f_5 f_9 f_11 f_14 f_16 f_28 f_30 f_32 f_33 f_35 f_38 f_40 f_42 f_43 f_45 f_46 f_48 f_49 f_51 f_52 f_54 f_56 f_57 f_58 f_61 f_62 f_68 f_69 f_70 f_71 f_72 f_74 f_81 f_90 f_97 f_118 f_120 f_128 f_129 f_130 f_131 f_132 f_133 f_136 f_144 f_145 f_147 f_148 f_151 f_153 f_156 f_157 f_164 f_166 f_169 f_171 f_173 f_175 f_177 f_179 f_181 f_183 f_185 f_187 f_189 f_191 f_193 fa_36 fa_167 gq_2 gq_27 gq_29 gq_31 gq_34 gq_37 gq_39 gq_41 gq_44 gq_47 gq_50 gq_53 gq_55 gq_60 gq_163 gq_165 gq_168 gq_170 gq_172 gq_174 gq_176 gq_178 gq_180 gq_182 gq_184 gq_186 gq_188 gq_190 gq_192 hl
    · obtain rfl : x_197 = (28 : Int32) := Int32.toInt_inj.mp (c_198.trans (by decide))
      refine lv_tableIn (off := 1257) (tgt := 1290) hx hb dL_law_33 (by decide) (by decide) rfl (by decide) ?_
      exact law_case_28 l hx hb hr hlocks hml hown hts hX hbl hbA hL7 dC dI dA b0 q_2 q_27 q_29 q_31 q_34 q_37 q_39 q_41 q_44 q_47 q_50 q_53 q_55 q_60 q_163 q_165 q_168 q_170 q_172 q_174 q_176 q_178 q_180 q_182 q_184 q_186 q_188 q_190 q_192 L_159 h_160 _ _ ls hW hZ f_4 f_5 f_9 f_11 f_14 f_16 f_28 f_30 f_32 f_33 f_35 f_38 f_40 f_42 f_43 f_45 f_46 f_48 f_49 f_51 f_52 f_54 f_56 f_57 f_58 f_61 f_62 f_68 f_69 f_70 f_71 f_72 f_74 f_81 f_90 f_97 f_118 f_120 f_128 f_129 f_130 f_131 f_132 f_133 f_136 f_144 f_145 f_147 f_148 f_151 f_153 f_156 f_157 f_164 f_166 f_169 f_171 f_173 f_175 f_177 f_179 f_181 f_183 f_185 f_187 f_189 f_191 f_193 fa_36 fa_167 gq_2 gq_27 gq_29 gq_31 gq_34 gq_37 gq_39 gq_41 gq_44 gq_47 gq_50 gq_53 gq_55 gq_60 gq_163 gq_165 gq_168 gq_170 gq_172 gq_174 gq_176 gq_178 gq_180 gq_182 gq_184 gq_186 gq_188 gq_190 gq_192 hl
    · obtain rfl : x_197 = (29 : Int32) := Int32.toInt_inj.mp (c_198.trans (by decide))
      refine lv_tableIn (off := 1290) (tgt := 1323) hx hb dL_law_33 (by decide) (by decide) rfl (by decide) ?_
      exact law_case_29 l hx hb hr hlocks hml hown hts hX hbl hbA hL7 dC dI dA b0 q_2 q_27 q_29 q_31 q_34 q_37 q_39 q_41 q_44 q_47 q_50 q_53 q_55 q_60 q_163 q_165 q_168 q_170 q_172 q_174 q_176 q_178 q_180 q_182 q_184 q_186 q_188 q_190 q_192 L_159 h_160 _ _ ls hW hZ f_4 f_5 f_9 f_11 f_14 f_16 f_28 f_30 f_32 f_33 f_35 f_38 f_40 f_42 f_43 f_45 f_46 f_48 f_49 f_51 f_52 f_54 f_56 f_57 f_58 f_61 f_62 f_68 f_69 f_70 f_71 f_72 f_74 f_81 f_90 f_97 f_118 f_120 f_128 f_129 f_130 f_131 f_132 f_133 f_136 f_144 f_145 f_147 f_148 f_151 f_153 f_156 f_157 f_164 f_166 f_169 f_171 f_173 f_175 f_177 f_179 f_181 f_183 f_185 f_187 f_189 f_191 f_193 fa_36 fa_167 gq_2 gq_27 gq_29 gq_31 gq_34 gq_37 gq_39 gq_41 gq_44 gq_47 gq_50 gq_53 gq_55 gq_60 gq_163 gq_165 gq_168 gq_170 gq_172 gq_174 gq_176 gq_178 gq_180 gq_182 gq_184 gq_186 gq_188 gq_190 gq_192 hl
    · obtain rfl : x_197 = (30 : Int32) := Int32.toInt_inj.mp (c_198.trans (by decide))
      refine lv_tableIn (off := 1323) (tgt := 1356) hx hb dL_law_33 (by decide) (by decide) rfl (by decide) ?_
      exact law_case_30 l hx hb hr hlocks hml hown hts hX hbl hbA hL7 dC dI dA b0 q_2 q_27 q_29 q_31 q_34 q_37 q_39 q_41 q_44 q_47 q_50 q_53 q_55 q_60 q_163 q_165 q_168 q_170 q_172 q_174 q_176 q_178 q_180 q_182 q_184 q_186 q_188 q_190 q_192 L_159 h_160 _ _ ls hW hZ f_4 f_5 f_9 f_11 f_14 f_16 f_28 f_30 f_32 f_33 f_35 f_38 f_40 f_42 f_43 f_45 f_46 f_48 f_49 f_51 f_52 f_54 f_56 f_57 f_58 f_61 f_62 f_68 f_69 f_70 f_71 f_72 f_74 f_81 f_90 f_97 f_118 f_120 f_128 f_129 f_130 f_131 f_132 f_133 f_136 f_144 f_145 f_147 f_148 f_151 f_153 f_156 f_157 f_164 f_166 f_169 f_171 f_173 f_175 f_177 f_179 f_181 f_183 f_185 f_187 f_189 f_191 f_193 fa_36 fa_167 gq_2 gq_27 gq_29 gq_31 gq_34 gq_37 gq_39 gq_41 gq_44 gq_47 gq_50 gq_53 gq_55 gq_60 gq_163 gq_165 gq_168 gq_170 gq_172 gq_174 gq_176 gq_178 gq_180 gq_182 gq_184 gq_186 gq_188 gq_190 gq_192 hl
-- ===== YOUR PART ENDS =====
set_option maxHeartbeats 4000000 in
theorem lw_walk (l : Launch) (hflags : l.flags = flags0) (b : Addr) (xs : List Int32) : MetFree l x (headSpec (Jvm.Cond.code x code maxLocals ret :: tables_1) room_1) (lw_P b xs) (fun _ _ _ _ _ => True) lw_Q := by
  refine MetFree.of_bodyS (code := code) (maxLocals := maxLocals) (ret := ret) (by decide) ?_ ?_
  · intro args s m h hn
    obtain ⟨meth, c, h1, h2, h3, h4, h5, h6, -, -⟩ := Cond.code_spec hn (atoms_spec (ws := Jvm.Cond.code x code maxLocals ret :: tables_1) h _ List.mem_cons_self)
    exact ⟨meth, c, h1, h2, h3, h4, h5, h6⟩
  · intro p e s m args below meth c s₁ B hml0 hP _
    obtain ⟨rfl, hx, hbd, hgv⟩ := hP
    obtain ⟨scr, harrAt, hlist, hof, hsmall⟩ := hx
    obtain ⟨hcb, hkn, -, -⟩ := State.arrayAt?_spec harrAt
    have hown : s.vm.findClass R_law = some m.cls := findClass_of_methodNamed B.named
    have hts0 : ∀ c ∈ (Jvm.Cond.code x code maxLocals ret :: tables_1), c.before #[Value.ref b] s = true := atoms_spec (ws := Jvm.Cond.code x code maxLocals ret :: tables_1) B.pre
    have hts : ∀ w ∈ lw_tbl, w.before #[Value.ref b] s = true := k2_hts_sels lw_privs (fun w hw => hts0 w (List.mem_cons_of_mem _ hw)) lw_privs_ok
    have hml : c.maxLocals = 4 := B.maxLocals_eq (hts0 _ List.mem_cons_self)
    have X₀ : Stand p l e room_1 s m #[Value.ref b] below meth c s₁ [] 0 0 := Stand.of_body B
    have hh0 : s₁.heap = s.heap := by rw [B.state]; rfl
    have hsz : scr.slots.size = xs.length := by rw [← Array.length_toList, hlist, List.length_map]
    have hval : ∀ j : Nat, j < xs.length → scr.slots[j]? = some (.int (xs.getD j 0)) := fun j hj => by
      rw [← Array.getElem?_toList, hlist]
      simp [hj]
    have hbl : b < s.heap.size := (Array.getElem?_eq_some_iff.mp hcb).1
    have hX : va_X b xs.length (fun j => xs.getD j 0) s s.heap := ⟨scr, hcb, hof, hkn, hsz, hval⟩
    have K : W p l e room_1 s m #[Value.ref b] below meth c s₁.heap [] 0 0 (lw_Z below #[Value.ref b] s) (entryFrame m ([Value.ref b] : List Value).toArray 4) := by
      rw [hh0]
      exact whole_start l hflags hbd ⟨B.exec, B.bytes, B.returns, hml, hown, hts, hX, hbl, B.notSynchronized, hgv⟩
    obtain ⟨t, a1, o, b1, b2, b3⟩ := K s₁ rfl X₀
    exact ⟨t, o, a1, b1, b2, b3⟩
theorem lw_pre_spec {args : Array Value} {s : State} (h : (Jvm.Cond.and given_1 narrow_1).before args s = true) (hr : rest_1_c.before args s = true) : ∃ (b : Addr) (xs : List Int32), lw_P b xs args s := by
  have hs := flat_of_before _ h
  have hq := flat_of_before _ hr
  have hc : (Cond.count 1).before args s = true := hs _ (by decide +kernel)
  have harr : (Cond.arrayOf (.arg 0) .int).before args s = true := hs _ (by decide +kernel)
  have hle : (Cond.le (.length (.arg 0)) (.int 7)).before args s = true := hs _ (by decide +kernel)
  have hlen : (Cond.isInt (.length (.arg 0))).before args s = true := hq _ (by decide +kernel)
  have hall : (Cond.all (.arg 0) (.isInt (.elem (.arg 0) (.index 0)))).before args s = true := hq _ (by decide +kernel)
  obtain ⟨b, xs, hb, hx⟩ := State.ints_of_pre rfl harr hlen hall
  have hsm : xs.length < 2 ^ 31 := hx.choose_spec.2.2.2
  have hev : (Term.length (.arg 0)).eval args s none [] s = some (.int xs.length.toInt32) := hx.length_eval hb
  have hv := Cond.le_ints hev (show (Term.int 7).eval args s none [] s = some (.int 7) from rfl)
  have hd : xs.length.toInt32 ≤ 7 := by
    simpa [Cond.before, Cond.holds, hv] using hle
  have hN : xs.length ≤ 7 := (Int32.ofNat_le_ofNat hsm (by decide)).mp (show Int32.ofNat xs.length ≤ Int32.ofNat 7 from hd)
  exact ⟨b, xs, Cond.one_arg hc (show args[0]? = some (.ref b) from hb), hx, hN, h⟩
theorem lw_comes (l : Launch) (hflags : l.flags = flags0) : Comes l x (Jvm.Cond.code x code maxLocals ret :: tables_1) room_1 (fun tb e args s => Calls_1 tb e args s ∧ rest_1 tb e args s ∧ Pre_1 tb e args s)
    (fun _ _ args s o t => lw_Q args s o t) := by
  intro p e ha hc hk s m args below hf hfit hheap happ hpre
  obtain ⟨b, xs, hP⟩ := lw_pre_spec hpre.2.2 hpre.2.1
  obtain ⟨k, o, h1, h2, h3, hQ⟩ := lw_walk l hflags b xs p e ha hc hk s m args below hf ((Spec.applies_iff_loose hf).mp happ).1 hP trivial
  exact ⟨k, o, h1, h2, h3, hQ⟩
theorem lw_frame {s t : State} {o : Outcome} {args : Array Value} (h : Framed s o t [] 600000 7302250) :
    Framed s o t (fieldLocs frame_1_writes args s ++ arrayLocs frame_1_arrays args s ++ staticLocs frame_1_statics s) 600000 7302250 := h
theorem lw_limb (L : Cond) (hL : ∀ (args : Array Value) (s t : State), L.after args s (.returned (some (.int 1))) t = true) :
    ArmFor flags0 classFile x code maxLocals ret World_1 tables_1 room_1 Calls_1 rest_1 Pre_1
      (fun tb e a s o t => postC L tb e a s o t ∧ Framed s o t (fieldLocs frame_1_writes a s ++ arrayLocs frame_1_arrays a s ++ staticLocs frame_1_statics s) 600000 7302250) := by
  intro l hflags _ _ p e ha hc hk s m args below hf hfit hheap happ hpre
  obtain ⟨k, o, h1, h2, h3, rfl, hF⟩ := lw_comes l hflags p e ha hc hk s m args below hf hfit hheap happ hpre
  exact ⟨k, _, h1, h2, h3, hL args s _, lw_frame hF⟩
theorem i_vc : Claimed_1_1 ∧ Claimed_1_2 := ⟨lw_limb limb_1_1 (fun args s t => by simp [limb_1_1, Cond.after, Cond.holds, Cond.value]), lw_limb limb_1_2 (fun args s t => Cond.after_iff.mpr (by
  first | (rw [show limb_1_2 = Cond.eq .result (.int 1) from rfl, Cond.eq_ints (x := 1) (y := 1) rfl rfl]; simp; done) | (simp [limb_1_2, Cond.value, Term.eval]; done)))⟩
