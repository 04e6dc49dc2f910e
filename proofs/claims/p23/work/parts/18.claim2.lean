def wNX2_missedOn : Nat := 591646378237299586101047085358362736391232703247205744247646027960249315774378759985724434092118836090641077473033619903519648434690651605899541384982383604778
theorem wX2_missedOn_c : hz_cd cX2_missedOn wNX2_missedOn 66 := ⟨by decide +kernel, by decide +kernel⟩
theorem dX2_missedOn_0 : decode cX2_missedOn 0 = .ok (.aload_n 0, 1) := dw_42 wX2_missedOn_c rfl
theorem dX2_missedOn_1 : decode cX2_missedOn 1 = .ok (.getfield 25, 3) := dw_180 wX2_missedOn_c 0 25 rfl rfl
theorem dX2_missedOn_4 : decode cX2_missedOn 4 = .ok (.iload_n 2, 1) := dw_28 wX2_missedOn_c rfl
theorem dX2_missedOn_5 : decode cX2_missedOn 5 = .ok (.invokestatic 60, 3) := dw_184 wX2_missedOn_c 0 60 rfl rfl
theorem dX2_missedOn_8 : decode cX2_missedOn 8 = .ok (.ifCond .eq 14, 3) := dw_153 wX2_missedOn_c 0 14 rfl rfl rfl
theorem dX2_missedOn_11 : decode cX2_missedOn 11 = .ok (.aload_n 0, 1) := dw_42 wX2_missedOn_c rfl
theorem dX2_missedOn_12 : decode cX2_missedOn 12 = .ok (.getfield 31, 3) := dw_180 wX2_missedOn_c 0 31 rfl rfl
theorem dX2_missedOn_15 : decode cX2_missedOn 15 = .ok (.iload_n 2, 1) := dw_28 wX2_missedOn_c rfl
theorem dX2_missedOn_16 : decode cX2_missedOn 16 = .ok (.invokestatic 60, 3) := dw_184 wX2_missedOn_c 0 60 rfl rfl
theorem dX2_missedOn_19 : decode cX2_missedOn 19 = .ok (.ifCond .eq 5, 3) := dw_153 wX2_missedOn_c 0 5 rfl rfl rfl
theorem dX2_missedOn_22 : decode cX2_missedOn 22 = .ok (.iconst 0, 1) := dw_3 wX2_missedOn_c rfl
theorem dX2_missedOn_23 : decode cX2_missedOn 23 = .ok (.ireturn, 1) := dw_172 wX2_missedOn_c rfl
theorem dX2_missedOn_24 : decode cX2_missedOn 24 = .ok (.aload_n 0, 1) := dw_42 wX2_missedOn_c rfl
theorem dX2_missedOn_25 : decode cX2_missedOn 25 = .ok (.iload_n 2, 1) := dw_28 wX2_missedOn_c rfl
theorem dX2_missedOn_26 : decode cX2_missedOn 26 = .ok (.invokevirtual 83, 3) := dw_182 wX2_missedOn_c 0 83 rfl rfl
theorem dX2_missedOn_29 : decode cX2_missedOn 29 = .ok (.aload_n 0, 1) := dw_42 wX2_missedOn_c rfl
theorem dX2_missedOn_30 : decode cX2_missedOn 30 = .ok (.getfield 86, 3) := dw_180 wX2_missedOn_c 0 86 rfl rfl
theorem dX2_missedOn_33 : decode cX2_missedOn 33 = .ok (.iload_n 2, 1) := dw_28 wX2_missedOn_c rfl
theorem dX2_missedOn_34 : decode cX2_missedOn 34 = .ok (.aload_n 0, 1) := dw_42 wX2_missedOn_c rfl
theorem dX2_missedOn_35 : decode cX2_missedOn 35 = .ok (.getfield 25, 3) := dw_180 wX2_missedOn_c 0 25 rfl rfl
theorem dX2_missedOn_38 : decode cX2_missedOn 38 = .ok (.isub, 1) := dw_100 wX2_missedOn_c rfl
theorem dX2_missedOn_39 : decode cX2_missedOn 39 = .ok (.bipush 7, 2) := dw_16 wX2_missedOn_c 7 rfl rfl rfl
theorem dX2_missedOn_41 : decode cX2_missedOn 41 = .ok (.idiv, 1) := dw_108 wX2_missedOn_c rfl
theorem dX2_missedOn_42 : decode cX2_missedOn 42 = .ok (.imul, 1) := dw_104 wX2_missedOn_c rfl
theorem dX2_missedOn_43 : decode cX2_missedOn 43 = .ok (.invokestatic 89, 3) := dw_184 wX2_missedOn_c 0 89 rfl rfl
theorem dX2_missedOn_46 : decode cX2_missedOn 46 = .ok (.istore 4, 2) := dw_54 wX2_missedOn_c 4 rfl
theorem dX2_missedOn_48 : decode cX2_missedOn 48 = .ok (.iload 4, 2) := dw_21 wX2_missedOn_c 4 rfl
theorem dX2_missedOn_50 : decode cX2_missedOn 50 = .ok (.aload_n 0, 1) := dw_42 wX2_missedOn_c rfl
theorem dX2_missedOn_51 : decode cX2_missedOn 51 = .ok (.aload_n 1, 1) := dw_43 wX2_missedOn_c rfl
theorem dX2_missedOn_52 : decode cX2_missedOn 52 = .ok (.iload_n 2, 1) := dw_28 wX2_missedOn_c rfl
theorem dX2_missedOn_53 : decode cX2_missedOn 53 = .ok (.iload_n 3, 1) := dw_29 wX2_missedOn_c rfl
theorem dX2_missedOn_54 : decode cX2_missedOn 54 = .ok (.invokevirtual 92, 3) := dw_182 wX2_missedOn_c 0 92 rfl rfl
theorem dX2_missedOn_57 : decode cX2_missedOn 57 = .ok (.isub, 1) := dw_100 wX2_missedOn_c rfl
theorem dX2_missedOn_58 : decode cX2_missedOn 58 = .ok (.aload_n 0, 1) := dw_42 wX2_missedOn_c rfl
theorem dX2_missedOn_59 : decode cX2_missedOn 59 = .ok (.getfield 86, 3) := dw_180 wX2_missedOn_c 0 86 rfl rfl
theorem dX2_missedOn_62 : decode cX2_missedOn 62 = .ok (.invokestatic 95, 3) := dw_184 wX2_missedOn_c 0 95 rfl rfl
theorem dX2_missedOn_65 : decode cX2_missedOn 65 = .ok (.ireturn, 1) := dw_172 wX2_missedOn_c rfl
def wNX2_stateOn : Nat := 1147056393965052832817996355360741271839146227591386350428720731871842586529589609824987547151452018839216472571070101027568547183149771983344033850951443510341920528051382902659569501784222220685427417876353828103110836190261745454873470612522
theorem wX2_stateOn_c : hz_cd cX2_stateOn wNX2_stateOn 101 := ⟨by decide +kernel, by decide +kernel⟩
theorem dX2_stateOn_0 : decode cX2_stateOn 0 = .ok (.aload_n 0, 1) := dw_42 wX2_stateOn_c rfl
theorem dX2_stateOn_1 : decode cX2_stateOn 1 = .ok (.getfield 25, 3) := dw_180 wX2_stateOn_c 0 25 rfl rfl
theorem dX2_stateOn_4 : decode cX2_stateOn 4 = .ok (.iload_n 2, 1) := dw_28 wX2_stateOn_c rfl
theorem dX2_stateOn_5 : decode cX2_stateOn 5 = .ok (.invokestatic 60, 3) := dw_184 wX2_stateOn_c 0 60 rfl rfl
theorem dX2_stateOn_8 : decode cX2_stateOn 8 = .ok (.ifCond .ne 9, 3) := dw_154 wX2_stateOn_c 0 9 rfl rfl rfl
theorem dX2_stateOn_11 : decode cX2_stateOn 11 = .ok (.aload_n 0, 1) := dw_42 wX2_stateOn_c rfl
theorem dX2_stateOn_12 : decode cX2_stateOn 12 = .ok (.iload_n 2, 1) := dw_28 wX2_stateOn_c rfl
theorem dX2_stateOn_13 : decode cX2_stateOn 13 = .ok (.invokevirtual 64, 3) := dw_182 wX2_stateOn_c 0 64 rfl rfl
theorem dX2_stateOn_16 : decode cX2_stateOn 16 = .ok (.ireturn, 1) := dw_172 wX2_stateOn_c rfl
theorem dX2_stateOn_17 : decode cX2_stateOn 17 = .ok (.aload_n 0, 1) := dw_42 wX2_stateOn_c rfl
theorem dX2_stateOn_18 : decode cX2_stateOn 18 = .ok (.getfield 31, 3) := dw_180 wX2_stateOn_c 0 31 rfl rfl
theorem dX2_stateOn_21 : decode cX2_stateOn 21 = .ok (.iload_n 2, 1) := dw_28 wX2_stateOn_c rfl
theorem dX2_stateOn_22 : decode cX2_stateOn 22 = .ok (.invokestatic 60, 3) := dw_184 wX2_stateOn_c 0 60 rfl rfl
theorem dX2_stateOn_25 : decode cX2_stateOn 25 = .ok (.ifCond .eq 6, 3) := dw_153 wX2_stateOn_c 0 6 rfl rfl rfl
theorem dX2_stateOn_28 : decode cX2_stateOn 28 = .ok (.bipush 8, 2) := dw_16 wX2_stateOn_c 8 rfl rfl rfl
theorem dX2_stateOn_30 : decode cX2_stateOn 30 = .ok (.ireturn, 1) := dw_172 wX2_stateOn_c rfl
theorem dX2_stateOn_31 : decode cX2_stateOn 31 = .ok (.aload_n 0, 1) := dw_42 wX2_stateOn_c rfl
theorem dX2_stateOn_32 : decode cX2_stateOn 32 = .ok (.aload_n 1, 1) := dw_43 wX2_stateOn_c rfl
theorem dX2_stateOn_33 : decode cX2_stateOn 33 = .ok (.iload_n 2, 1) := dw_28 wX2_stateOn_c rfl
theorem dX2_stateOn_34 : decode cX2_stateOn 34 = .ok (.iload_n 3, 1) := dw_29 wX2_stateOn_c rfl
theorem dX2_stateOn_35 : decode cX2_stateOn 35 = .ok (.invokevirtual 56, 3) := dw_182 wX2_stateOn_c 0 56 rfl rfl
theorem dX2_stateOn_38 : decode cX2_stateOn 38 = .ok (.ifCond .ne 6, 3) := dw_154 wX2_stateOn_c 0 6 rfl rfl rfl
theorem dX2_stateOn_41 : decode cX2_stateOn 41 = .ok (.bipush 7, 2) := dw_16 wX2_stateOn_c 7 rfl rfl rfl
theorem dX2_stateOn_43 : decode cX2_stateOn 43 = .ok (.ireturn, 1) := dw_172 wX2_stateOn_c rfl
theorem dX2_stateOn_44 : decode cX2_stateOn 44 = .ok (.aload_n 0, 1) := dw_42 wX2_stateOn_c rfl
theorem dX2_stateOn_45 : decode cX2_stateOn 45 = .ok (.aload_n 1, 1) := dw_43 wX2_stateOn_c rfl
theorem dX2_stateOn_46 : decode cX2_stateOn 46 = .ok (.iload_n 2, 1) := dw_28 wX2_stateOn_c rfl
theorem dX2_stateOn_47 : decode cX2_stateOn 47 = .ok (.iload_n 3, 1) := dw_29 wX2_stateOn_c rfl
theorem dX2_stateOn_48 : decode cX2_stateOn 48 = .ok (.invokevirtual 68, 3) := dw_182 wX2_stateOn_c 0 68 rfl rfl
theorem dX2_stateOn_51 : decode cX2_stateOn 51 = .ok (.istore 4, 2) := dw_54 wX2_stateOn_c 4 rfl
theorem dX2_stateOn_53 : decode cX2_stateOn 53 = .ok (.iload 4, 2) := dw_21 wX2_stateOn_c 4 rfl
theorem dX2_stateOn_55 : decode cX2_stateOn 55 = .ok (.aload_n 0, 1) := dw_42 wX2_stateOn_c rfl
theorem dX2_stateOn_56 : decode cX2_stateOn 56 = .ok (.getfield 44, 3) := dw_180 wX2_stateOn_c 0 44 rfl rfl
theorem dX2_stateOn_59 : decode cX2_stateOn 59 = .ok (.getfield 51, 3) := dw_180 wX2_stateOn_c 0 51 rfl rfl
theorem dX2_stateOn_62 : decode cX2_stateOn 62 = .ok (.iconst 5, 1) := dw_8 wX2_stateOn_c rfl
theorem dX2_stateOn_63 : decode cX2_stateOn 63 = .ok (.iaload, 1) := dw_46 wX2_stateOn_c rfl
theorem dX2_stateOn_64 : decode cX2_stateOn 64 = .ok (.if_icmp .ge 5, 3) := dw_162 wX2_stateOn_c 0 5 rfl rfl rfl
theorem dX2_stateOn_67 : decode cX2_stateOn 67 = .ok (.iconst 4, 1) := dw_7 wX2_stateOn_c rfl
theorem dX2_stateOn_68 : decode cX2_stateOn 68 = .ok (.ireturn, 1) := dw_172 wX2_stateOn_c rfl
theorem dX2_stateOn_69 : decode cX2_stateOn 69 = .ok (.iload 4, 2) := dw_21 wX2_stateOn_c 4 rfl
theorem dX2_stateOn_71 : decode cX2_stateOn 71 = .ok (.aload_n 0, 1) := dw_42 wX2_stateOn_c rfl
theorem dX2_stateOn_72 : decode cX2_stateOn 72 = .ok (.getfield 44, 3) := dw_180 wX2_stateOn_c 0 44 rfl rfl
theorem dX2_stateOn_75 : decode cX2_stateOn 75 = .ok (.getfield 51, 3) := dw_180 wX2_stateOn_c 0 51 rfl rfl
theorem dX2_stateOn_78 : decode cX2_stateOn 78 = .ok (.iconst 5, 1) := dw_8 wX2_stateOn_c rfl
theorem dX2_stateOn_79 : decode cX2_stateOn 79 = .ok (.iaload, 1) := dw_46 wX2_stateOn_c rfl
theorem dX2_stateOn_80 : decode cX2_stateOn 80 = .ok (.aload_n 0, 1) := dw_42 wX2_stateOn_c rfl
theorem dX2_stateOn_81 : decode cX2_stateOn 81 = .ok (.getfield 44, 3) := dw_180 wX2_stateOn_c 0 44 rfl rfl
theorem dX2_stateOn_84 : decode cX2_stateOn 84 = .ok (.getfield 51, 3) := dw_180 wX2_stateOn_c 0 51 rfl rfl
theorem dX2_stateOn_87 : decode cX2_stateOn 87 = .ok (.bipush 6, 2) := dw_16 wX2_stateOn_c 6 rfl rfl rfl
theorem dX2_stateOn_89 : decode cX2_stateOn 89 = .ok (.iaload, 1) := dw_46 wX2_stateOn_c rfl
theorem dX2_stateOn_90 : decode cX2_stateOn 90 = .ok (.iadd, 1) := dw_96 wX2_stateOn_c rfl
theorem dX2_stateOn_91 : decode cX2_stateOn 91 = .ok (.if_icmp .ge 7, 3) := dw_162 wX2_stateOn_c 0 7 rfl rfl rfl
theorem dX2_stateOn_94 : decode cX2_stateOn 94 = .ok (.iconst 5, 1) := dw_8 wX2_stateOn_c rfl
theorem dX2_stateOn_95 : decode cX2_stateOn 95 = .ok (.goto 5, 3) := dw_167 wX2_stateOn_c 0 5 rfl rfl rfl
theorem dX2_stateOn_98 : decode cX2_stateOn 98 = .ok (.bipush 6, 2) := dw_16 wX2_stateOn_c 6 rfl rfl rfl
theorem dX2_stateOn_100 : decode cX2_stateOn 100 = .ok (.ireturn, 1) := dw_172 wX2_stateOn_c rfl