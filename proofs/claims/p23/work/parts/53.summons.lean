def wNX10_summons : Nat := 537502995505693162262045172235868104528075500785011478927205278266915766275022648732373430412606332038359346682270392456860070676344049613703355178
theorem wX10_summons_c : hz_cd cX10_summons wNX10_summons 61 := ⟨by decide +kernel, by decide +kernel⟩
theorem dX10_summons_0 : decode cX10_summons 0 = .ok (.aload_n 0, 1) := dw_42 wX10_summons_c rfl
theorem dX10_summons_1 : decode cX10_summons 1 = .ok (.iload_n 1, 1) := dw_27 wX10_summons_c rfl
theorem dX10_summons_2 : decode cX10_summons 2 = .ok (.invokevirtual 370, 3) := dw_182 wX10_summons_c 1 114 rfl rfl
theorem dX10_summons_5 : decode cX10_summons 5 = .ok (.ifCond .eq 23, 3) := dw_153 wX10_summons_c 0 23 rfl rfl rfl
theorem dX10_summons_8 : decode cX10_summons 8 = .ok (.aload_n 0, 1) := dw_42 wX10_summons_c rfl
theorem dX10_summons_9 : decode cX10_summons 9 = .ok (.getfield 108, 3) := dw_180 wX10_summons_c 0 108 rfl rfl
theorem dX10_summons_12 : decode cX10_summons 12 = .ok (.iload_n 1, 1) := dw_27 wX10_summons_c rfl
theorem dX10_summons_13 : decode cX10_summons 13 = .ok (.iaload, 1) := dw_46 wX10_summons_c rfl
theorem dX10_summons_14 : decode cX10_summons 14 = .ok (.iconst (-1), 1) := dw_2 wX10_summons_c rfl
theorem dX10_summons_15 : decode cX10_summons 15 = .ok (.if_icmp .ne 13, 3) := dw_160 wX10_summons_c 0 13 rfl rfl rfl
theorem dX10_summons_18 : decode cX10_summons 18 = .ok (.aload_n 0, 1) := dw_42 wX10_summons_c rfl
theorem dX10_summons_19 : decode cX10_summons 19 = .ok (.getfield 111, 3) := dw_180 wX10_summons_c 0 111 rfl rfl
theorem dX10_summons_22 : decode cX10_summons 22 = .ok (.iload_n 1, 1) := dw_27 wX10_summons_c rfl
theorem dX10_summons_23 : decode cX10_summons 23 = .ok (.iaload, 1) := dw_46 wX10_summons_c rfl
theorem dX10_summons_24 : decode cX10_summons 24 = .ok (.iconst (-1), 1) := dw_2 wX10_summons_c rfl
theorem dX10_summons_25 : decode cX10_summons 25 = .ok (.if_icmp .eq 5, 3) := dw_159 wX10_summons_c 0 5 rfl rfl rfl
theorem dX10_summons_28 : decode cX10_summons 28 = .ok (.iconst (-1), 1) := dw_2 wX10_summons_c rfl
theorem dX10_summons_29 : decode cX10_summons 29 = .ok (.ireturn, 1) := dw_172 wX10_summons_c rfl
theorem dX10_summons_30 : decode cX10_summons 30 = .ok (.aload_n 0, 1) := dw_42 wX10_summons_c rfl
theorem dX10_summons_31 : decode cX10_summons 31 = .ok (.getfield 105, 3) := dw_180 wX10_summons_c 0 105 rfl rfl
theorem dX10_summons_34 : decode cX10_summons 34 = .ok (.iload_n 1, 1) := dw_27 wX10_summons_c rfl
theorem dX10_summons_35 : decode cX10_summons 35 = .ok (.dup2, 1) := dw_92 wX10_summons_c rfl
theorem dX10_summons_36 : decode cX10_summons 36 = .ok (.iaload, 1) := dw_46 wX10_summons_c rfl
theorem dX10_summons_37 : decode cX10_summons 37 = .ok (.iconst 1, 1) := dw_4 wX10_summons_c rfl
theorem dX10_summons_38 : decode cX10_summons 38 = .ok (.iadd, 1) := dw_96 wX10_summons_c rfl
theorem dX10_summons_39 : decode cX10_summons 39 = .ok (.iastore, 1) := dw_79 wX10_summons_c rfl
theorem dX10_summons_40 : decode cX10_summons 40 = .ok (.iload_n 2, 1) := dw_28 wX10_summons_c rfl
theorem dX10_summons_41 : decode cX10_summons 41 = .ok (.ifCond .eq 13, 3) := dw_153 wX10_summons_c 0 13 rfl rfl rfl
theorem dX10_summons_44 : decode cX10_summons 44 = .ok (.aload_n 0, 1) := dw_42 wX10_summons_c rfl
theorem dX10_summons_45 : decode cX10_summons 45 = .ok (.getfield 108, 3) := dw_180 wX10_summons_c 0 108 rfl rfl
theorem dX10_summons_48 : decode cX10_summons 48 = .ok (.iload_n 1, 1) := dw_27 wX10_summons_c rfl
theorem dX10_summons_49 : decode cX10_summons 49 = .ok (.aload_n 0, 1) := dw_42 wX10_summons_c rfl
theorem dX10_summons_50 : decode cX10_summons 50 = .ok (.getfield 232, 3) := dw_180 wX10_summons_c 0 232 rfl rfl
theorem dX10_summons_53 : decode cX10_summons 53 = .ok (.iastore, 1) := dw_79 wX10_summons_c rfl
theorem dX10_summons_54 : decode cX10_summons 54 = .ok (.aload_n 0, 1) := dw_42 wX10_summons_c rfl
theorem dX10_summons_55 : decode cX10_summons 55 = .ok (.getfield 105, 3) := dw_180 wX10_summons_c 0 105 rfl rfl
theorem dX10_summons_58 : decode cX10_summons 58 = .ok (.iload_n 1, 1) := dw_27 wX10_summons_c rfl
theorem dX10_summons_59 : decode cX10_summons 59 = .ok (.iaload, 1) := dw_46 wX10_summons_c rfl
theorem dX10_summons_60 : decode cX10_summons 60 = .ok (.ireturn, 1) := dw_172 wX10_summons_c rfl