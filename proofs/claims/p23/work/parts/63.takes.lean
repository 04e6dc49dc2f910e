def wNX10_takes : Nat := 4926572160251788883879708993989080200042036548587031971230210402484063971780674096727683001374510916644859986631553332244496883979903217732763417159562613384552056214710990604578277672759109532196078249578893161158597362873802847047104395817139636090397
theorem wX10_takes_c : hz_cd cX10_takes wNX10_takes 105 := ⟨by decide +kernel, by decide +kernel⟩
theorem dX10_takes_0 : decode cX10_takes 0 = .ok (.iload_n 3, 1) := dw_29 wX10_takes_c rfl
theorem dX10_takes_1 : decode cX10_takes 1 = .ok (.istore 5, 2) := dw_54 wX10_takes_c 5 rfl
theorem dX10_takes_3 : decode cX10_takes 3 = .ok (.iconst 0, 1) := dw_3 wX10_takes_c rfl
theorem dX10_takes_4 : decode cX10_takes 4 = .ok (.istore 6, 2) := dw_54 wX10_takes_c 6 rfl
theorem dX10_takes_6 : decode cX10_takes 6 = .ok (.iconst 0, 1) := dw_3 wX10_takes_c rfl
theorem dX10_takes_7 : decode cX10_takes 7 = .ok (.istore 7, 2) := dw_54 wX10_takes_c 7 rfl
theorem dX10_takes_9 : decode cX10_takes 9 = .ok (.iload 7, 2) := dw_21 wX10_takes_c 7 rfl
theorem dX10_takes_11 : decode cX10_takes 11 = .ok (.aload_n 0, 1) := dw_42 wX10_takes_c rfl
theorem dX10_takes_12 : decode cX10_takes 12 = .ok (.getfield 367, 3) := dw_180 wX10_takes_c 1 111 rfl rfl
theorem dX10_takes_15 : decode cX10_takes 15 = .ok (.if_icmp .ge 87, 3) := dw_162 wX10_takes_c 0 87 rfl rfl rfl
theorem dX10_takes_18 : decode cX10_takes 18 = .ok (.iload 5, 2) := dw_21 wX10_takes_c 5 rfl
theorem dX10_takes_20 : decode cX10_takes 20 = .ok (.ifCond .le 82, 3) := dw_158 wX10_takes_c 0 82 rfl rfl rfl
theorem dX10_takes_23 : decode cX10_takes 23 = .ok (.aload_n 0, 1) := dw_42 wX10_takes_c rfl
theorem dX10_takes_24 : decode cX10_takes 24 = .ok (.getfield 84, 3) := dw_180 wX10_takes_c 0 84 rfl rfl
theorem dX10_takes_27 : decode cX10_takes 27 = .ok (.iload 7, 2) := dw_21 wX10_takes_c 7 rfl
theorem dX10_takes_29 : decode cX10_takes 29 = .ok (.iaload, 1) := dw_46 wX10_takes_c rfl
theorem dX10_takes_30 : decode cX10_takes 30 = .ok (.iload_n 1, 1) := dw_27 wX10_takes_c rfl
theorem dX10_takes_31 : decode cX10_takes 31 = .ok (.if_icmp .ne 65, 3) := dw_160 wX10_takes_c 0 65 rfl rfl rfl
theorem dX10_takes_34 : decode cX10_takes 34 = .ok (.aload_n 0, 1) := dw_42 wX10_takes_c rfl
theorem dX10_takes_35 : decode cX10_takes 35 = .ok (.getfield 81, 3) := dw_180 wX10_takes_c 0 81 rfl rfl
theorem dX10_takes_38 : decode cX10_takes 38 = .ok (.iload 7, 2) := dw_21 wX10_takes_c 7 rfl
theorem dX10_takes_40 : decode cX10_takes 40 = .ok (.iaload, 1) := dw_46 wX10_takes_c rfl
theorem dX10_takes_41 : decode cX10_takes 41 = .ok (.iload_n 2, 1) := dw_28 wX10_takes_c rfl
theorem dX10_takes_42 : decode cX10_takes 42 = .ok (.if_icmp .ne 54, 3) := dw_160 wX10_takes_c 0 54 rfl rfl rfl
theorem dX10_takes_45 : decode cX10_takes 45 = .ok (.aload_n 0, 1) := dw_42 wX10_takes_c rfl
theorem dX10_takes_46 : decode cX10_takes 46 = .ok (.iload 7, 2) := dw_21 wX10_takes_c 7 rfl
theorem dX10_takes_48 : decode cX10_takes 48 = .ok (.invokevirtual 419, 3) := dw_182 wX10_takes_c 1 163 rfl rfl
theorem dX10_takes_51 : decode cX10_takes 51 = .ok (.ifCond .ne 6, 3) := dw_154 wX10_takes_c 0 6 rfl rfl rfl
theorem dX10_takes_54 : decode cX10_takes 54 = .ok (.goto 42, 3) := dw_167 wX10_takes_c 0 42 rfl rfl rfl
theorem dX10_takes_57 : decode cX10_takes 57 = .ok (.iload 5, 2) := dw_21 wX10_takes_c 5 rfl
theorem dX10_takes_59 : decode cX10_takes 59 = .ok (.aload_n 0, 1) := dw_42 wX10_takes_c rfl
theorem dX10_takes_60 : decode cX10_takes 60 = .ok (.getfield 401, 3) := dw_180 wX10_takes_c 1 145 rfl rfl
theorem dX10_takes_63 : decode cX10_takes 63 = .ok (.invokestatic 448, 3) := dw_184 wX10_takes_c 1 192 rfl rfl
theorem dX10_takes_66 : decode cX10_takes 66 = .ok (.istore 8, 2) := dw_54 wX10_takes_c 8 rfl
theorem dX10_takes_68 : decode cX10_takes 68 = .ok (.iload 4, 2) := dw_21 wX10_takes_c 4 rfl
theorem dX10_takes_70 : decode cX10_takes 70 = .ok (.ifCond .eq 16, 3) := dw_153 wX10_takes_c 0 16 rfl rfl rfl
theorem dX10_takes_86 : decode cX10_takes 86 = .ok (.iload 5, 2) := dw_21 wX10_takes_c 5 rfl
theorem dX10_takes_88 : decode cX10_takes 88 = .ok (.iload 8, 2) := dw_21 wX10_takes_c 8 rfl
theorem dX10_takes_90 : decode cX10_takes 90 = .ok (.isub, 1) := dw_100 wX10_takes_c rfl
theorem dX10_takes_91 : decode cX10_takes 91 = .ok (.istore 5, 2) := dw_54 wX10_takes_c 5 rfl
theorem dX10_takes_93 : decode cX10_takes 93 = .ok (.iinc 6 1, 3) := dw_132 wX10_takes_c 6 1 rfl rfl rfl
theorem dX10_takes_96 : decode cX10_takes 96 = .ok (.iinc 7 1, 3) := dw_132 wX10_takes_c 7 1 rfl rfl rfl
theorem dX10_takes_99 : decode cX10_takes 99 = .ok (.goto (-90), 3) := dn_167 wX10_takes_c 255 166 rfl (by decide)
theorem dX10_takes_102 : decode cX10_takes 102 = .ok (.iload 6, 2) := dw_21 wX10_takes_c 6 rfl
theorem dX10_takes_104 : decode cX10_takes 104 = .ok (.ireturn, 1) := dw_172 wX10_takes_c rfl
theorem dX10_takes_73 : decode cX10_takes 73 = .ok (.aload_n 0, 1) := dw_42 wX10_takes_c rfl
theorem dX10_takes_74 : decode cX10_takes 74 = .ok (.iload 7, 2) := dw_21 wX10_takes_c 7 rfl
theorem dX10_takes_76 : decode cX10_takes 76 = .ok (.aload_n 0, 1) := dw_42 wX10_takes_c rfl
theorem dX10_takes_77 : decode cX10_takes 77 = .ok (.getfield 232, 3) := dw_180 wX10_takes_c 0 232 rfl rfl
theorem dX10_takes_80 : decode cX10_takes 80 = .ok (.iload 8, 2) := dw_21 wX10_takes_c 8 rfl
theorem dX10_takes_82 : decode cX10_takes 82 = .ok (.invokevirtual 425, 3) := dw_182 wX10_takes_c 1 169 rfl rfl
theorem dX10_takes_85 : decode cX10_takes 85 = .ok (.pop, 1) := dw_87 wX10_takes_c rfl