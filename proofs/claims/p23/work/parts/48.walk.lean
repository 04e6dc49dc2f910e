def wNX10_list : Nat := 7953714702318784824191021161298062469731560554962398564967595076098299762601195826694183736516347780815382747817884472761869781076634859108907050780891903469538974177313147413205227153724629969514494564275083493188921600029240559913759560944077493773348933690857794499131620930797936797807008587433979307164572458
theorem wX10_list_c : hz_cd cX10_list wNX10_list 130 := ⟨by decide +kernel, by decide +kernel⟩
theorem dX10_list_0 : decode cX10_list 0 = .ok (.aload_n 0, 1) := dw_42 wX10_list_c rfl
theorem dX10_list_1 : decode cX10_list 1 = .ok (.iload_n 1, 1) := dw_27 wX10_list_c rfl
theorem dX10_list_2 : decode cX10_list 2 = .ok (.invokevirtual 370, 3) := dw_182 wX10_list_c 1 114 rfl rfl
theorem dX10_list_5 : decode cX10_list 5 = .ok (.ifCond .eq 32, 3) := dw_153 wX10_list_c 0 32 rfl rfl rfl
theorem dX10_list_8 : decode cX10_list 8 = .ok (.aload_n 0, 1) := dw_42 wX10_list_c rfl
theorem dX10_list_9 : decode cX10_list 9 = .ok (.getfield 108, 3) := dw_180 wX10_list_c 0 108 rfl rfl
theorem dX10_list_12 : decode cX10_list 12 = .ok (.iload_n 1, 1) := dw_27 wX10_list_c rfl
theorem dX10_list_13 : decode cX10_list 13 = .ok (.iaload, 1) := dw_46 wX10_list_c rfl
theorem dX10_list_14 : decode cX10_list 14 = .ok (.iconst (-1), 1) := dw_2 wX10_list_c rfl
theorem dX10_list_15 : decode cX10_list 15 = .ok (.if_icmp .ne 22, 3) := dw_160 wX10_list_c 0 22 rfl rfl rfl
theorem dX10_list_18 : decode cX10_list 18 = .ok (.aload_n 0, 1) := dw_42 wX10_list_c rfl
theorem dX10_list_19 : decode cX10_list 19 = .ok (.getfield 111, 3) := dw_180 wX10_list_c 0 111 rfl rfl
theorem dX10_list_22 : decode cX10_list 22 = .ok (.iload_n 1, 1) := dw_27 wX10_list_c rfl
theorem dX10_list_23 : decode cX10_list 23 = .ok (.iaload, 1) := dw_46 wX10_list_c rfl
theorem dX10_list_24 : decode cX10_list 24 = .ok (.iconst (-1), 1) := dw_2 wX10_list_c rfl
theorem dX10_list_25 : decode cX10_list 25 = .ok (.if_icmp .ne 12, 3) := dw_160 wX10_list_c 0 12 rfl rfl rfl
theorem dX10_list_28 : decode cX10_list 28 = .ok (.aload_n 0, 1) := dw_42 wX10_list_c rfl
theorem dX10_list_29 : decode cX10_list 29 = .ok (.getfield 468, 3) := dw_180 wX10_list_c 1 212 rfl rfl
theorem dX10_list_32 : decode cX10_list 32 = .ok (.bipush 8, 2) := dw_16 wX10_list_c 8 rfl rfl rfl
theorem dX10_list_34 : decode cX10_list 34 = .ok (.if_icmp .ne 5, 3) := dw_160 wX10_list_c 0 5 rfl rfl rfl
theorem dX10_list_37 : decode cX10_list 37 = .ok (.iconst (-1), 1) := dw_2 wX10_list_c rfl
theorem dX10_list_38 : decode cX10_list 38 = .ok (.ireturn, 1) := dw_172 wX10_list_c rfl
theorem dX10_list_39 : decode cX10_list 39 = .ok (.iconst 0, 1) := dw_3 wX10_list_c rfl
theorem dX10_list_40 : decode cX10_list 40 = .ok (.istore_n 2, 1) := dw_61 wX10_list_c rfl
theorem dX10_list_41 : decode cX10_list 41 = .ok (.iload_n 2, 1) := dw_28 wX10_list_c rfl
theorem dX10_list_42 : decode cX10_list 42 = .ok (.aload_n 0, 1) := dw_42 wX10_list_c rfl
theorem dX10_list_43 : decode cX10_list 43 = .ok (.getfield 468, 3) := dw_180 wX10_list_c 1 212 rfl rfl
theorem dX10_list_46 : decode cX10_list 46 = .ok (.if_icmp .ge 21, 3) := dw_162 wX10_list_c 0 21 rfl rfl rfl
theorem dX10_list_49 : decode cX10_list 49 = .ok (.aload_n 0, 1) := dw_42 wX10_list_c rfl
theorem dX10_list_50 : decode cX10_list 50 = .ok (.getfield 201, 3) := dw_180 wX10_list_c 0 201 rfl rfl
theorem dX10_list_53 : decode cX10_list 53 = .ok (.iload_n 2, 1) := dw_28 wX10_list_c rfl
theorem dX10_list_54 : decode cX10_list 54 = .ok (.iaload, 1) := dw_46 wX10_list_c rfl
theorem dX10_list_55 : decode cX10_list 55 = .ok (.iload_n 1, 1) := dw_27 wX10_list_c rfl
theorem dX10_list_56 : decode cX10_list 56 = .ok (.if_icmp .ne 5, 3) := dw_160 wX10_list_c 0 5 rfl rfl rfl
theorem dX10_list_59 : decode cX10_list 59 = .ok (.iconst (-1), 1) := dw_2 wX10_list_c rfl
theorem dX10_list_60 : decode cX10_list 60 = .ok (.ireturn, 1) := dw_172 wX10_list_c rfl
theorem dX10_list_61 : decode cX10_list 61 = .ok (.iinc 2 1, 3) := dw_132 wX10_list_c 2 1 rfl rfl rfl
theorem dX10_list_64 : decode cX10_list 64 = .ok (.goto (-23), 3) := dn_167 wX10_list_c 255 233 rfl (by decide)
theorem dX10_list_67 : decode cX10_list 67 = .ok (.aload_n 0, 1) := dw_42 wX10_list_c rfl
theorem dX10_list_68 : decode cX10_list 68 = .ok (.getfield 468, 3) := dw_180 wX10_list_c 1 212 rfl rfl
theorem dX10_list_71 : decode cX10_list 71 = .ok (.istore_n 2, 1) := dw_61 wX10_list_c rfl
theorem dX10_list_72 : decode cX10_list 72 = .ok (.iload_n 2, 1) := dw_28 wX10_list_c rfl
theorem dX10_list_73 : decode cX10_list 73 = .ok (.ifCond .le 35, 3) := dw_158 wX10_list_c 0 35 rfl rfl rfl
theorem dX10_list_76 : decode cX10_list 76 = .ok (.aload_n 0, 1) := dw_42 wX10_list_c rfl
theorem dX10_list_77 : decode cX10_list 77 = .ok (.getfield 201, 3) := dw_180 wX10_list_c 0 201 rfl rfl
theorem dX10_list_80 : decode cX10_list 80 = .ok (.iload_n 2, 1) := dw_28 wX10_list_c rfl
theorem dX10_list_81 : decode cX10_list 81 = .ok (.iconst 1, 1) := dw_4 wX10_list_c rfl
theorem dX10_list_82 : decode cX10_list 82 = .ok (.isub, 1) := dw_100 wX10_list_c rfl
theorem dX10_list_83 : decode cX10_list 83 = .ok (.iaload, 1) := dw_46 wX10_list_c rfl
theorem dX10_list_84 : decode cX10_list 84 = .ok (.iload_n 1, 1) := dw_27 wX10_list_c rfl
theorem dX10_list_85 : decode cX10_list 85 = .ok (.if_icmp .le 23, 3) := dw_164 wX10_list_c 0 23 rfl rfl rfl
theorem dX10_list_88 : decode cX10_list 88 = .ok (.aload_n 0, 1) := dw_42 wX10_list_c rfl
theorem dX10_list_89 : decode cX10_list 89 = .ok (.getfield 201, 3) := dw_180 wX10_list_c 0 201 rfl rfl
theorem dX10_list_92 : decode cX10_list 92 = .ok (.iload_n 2, 1) := dw_28 wX10_list_c rfl
theorem dX10_list_93 : decode cX10_list 93 = .ok (.aload_n 0, 1) := dw_42 wX10_list_c rfl
theorem dX10_list_94 : decode cX10_list 94 = .ok (.getfield 201, 3) := dw_180 wX10_list_c 0 201 rfl rfl
theorem dX10_list_97 : decode cX10_list 97 = .ok (.iload_n 2, 1) := dw_28 wX10_list_c rfl
theorem dX10_list_98 : decode cX10_list 98 = .ok (.iconst 1, 1) := dw_4 wX10_list_c rfl
theorem dX10_list_99 : decode cX10_list 99 = .ok (.isub, 1) := dw_100 wX10_list_c rfl
theorem dX10_list_100 : decode cX10_list 100 = .ok (.iaload, 1) := dw_46 wX10_list_c rfl
theorem dX10_list_101 : decode cX10_list 101 = .ok (.iastore, 1) := dw_79 wX10_list_c rfl
theorem dX10_list_102 : decode cX10_list 102 = .ok (.iinc 2 (-1), 3) := dn_132 wX10_list_c 2 255 rfl (by decide)
theorem dX10_list_105 : decode cX10_list 105 = .ok (.goto (-33), 3) := dn_167 wX10_list_c 255 223 rfl (by decide)
theorem dX10_list_108 : decode cX10_list 108 = .ok (.aload_n 0, 1) := dw_42 wX10_list_c rfl
theorem dX10_list_109 : decode cX10_list 109 = .ok (.getfield 201, 3) := dw_180 wX10_list_c 0 201 rfl rfl
theorem dX10_list_112 : decode cX10_list 112 = .ok (.iload_n 2, 1) := dw_28 wX10_list_c rfl
theorem dX10_list_113 : decode cX10_list 113 = .ok (.iload_n 1, 1) := dw_27 wX10_list_c rfl
theorem dX10_list_114 : decode cX10_list 114 = .ok (.iastore, 1) := dw_79 wX10_list_c rfl
theorem dX10_list_115 : decode cX10_list 115 = .ok (.aload_n 0, 1) := dw_42 wX10_list_c rfl
theorem dX10_list_116 : decode cX10_list 116 = .ok (.dup, 1) := dw_89 wX10_list_c rfl
theorem dX10_list_117 : decode cX10_list 117 = .ok (.getfield 468, 3) := dw_180 wX10_list_c 1 212 rfl rfl
theorem dX10_list_120 : decode cX10_list 120 = .ok (.iconst 1, 1) := dw_4 wX10_list_c rfl
theorem dX10_list_121 : decode cX10_list 121 = .ok (.iadd, 1) := dw_96 wX10_list_c rfl
theorem dX10_list_122 : decode cX10_list 122 = .ok (.putfield 468, 3) := dw_181 wX10_list_c 1 212 rfl rfl
theorem dX10_list_125 : decode cX10_list 125 = .ok (.aload_n 0, 1) := dw_42 wX10_list_c rfl
theorem dX10_list_126 : decode cX10_list 126 = .ok (.getfield 468, 3) := dw_180 wX10_list_c 1 212 rfl rfl
theorem dX10_list_129 : decode cX10_list 129 = .ok (.ireturn, 1) := dw_172 wX10_list_c rfl
theorem dX10_stepsBetween_0 : decode cX10_stepsBetween 0 = .ok (.iload_n 0, 1) := by decide +kernel
theorem dX10_stepsBetween_1 : decode cX10_stepsBetween 1 = .ok (.iload_n 2, 1) := by decide +kernel
theorem dX10_stepsBetween_2 : decode cX10_stepsBetween 2 = .ok (.if_icmp .ge 9, 3) := by decide +kernel
theorem dX10_stepsBetween_5 : decode cX10_stepsBetween 5 = .ok (.iload_n 2, 1) := by decide +kernel
theorem dX10_stepsBetween_6 : decode cX10_stepsBetween 6 = .ok (.iload_n 0, 1) := by decide +kernel
theorem dX10_stepsBetween_7 : decode cX10_stepsBetween 7 = .ok (.isub, 1) := by decide +kernel
theorem dX10_stepsBetween_8 : decode cX10_stepsBetween 8 = .ok (.goto 6, 3) := by decide +kernel
theorem dX10_stepsBetween_11 : decode cX10_stepsBetween 11 = .ok (.iload_n 0, 1) := by decide +kernel
theorem dX10_stepsBetween_12 : decode cX10_stepsBetween 12 = .ok (.iload_n 2, 1) := by decide +kernel
theorem dX10_stepsBetween_13 : decode cX10_stepsBetween 13 = .ok (.isub, 1) := by decide +kernel
theorem dX10_stepsBetween_14 : decode cX10_stepsBetween 14 = .ok (.iload_n 1, 1) := by decide +kernel
theorem dX10_stepsBetween_15 : decode cX10_stepsBetween 15 = .ok (.iload_n 3, 1) := by decide +kernel
theorem dX10_stepsBetween_16 : decode cX10_stepsBetween 16 = .ok (.if_icmp .ge 9, 3) := by decide +kernel
theorem dX10_stepsBetween_19 : decode cX10_stepsBetween 19 = .ok (.iload_n 3, 1) := by decide +kernel
theorem dX10_stepsBetween_20 : decode cX10_stepsBetween 20 = .ok (.iload_n 1, 1) := by decide +kernel
theorem dX10_stepsBetween_21 : decode cX10_stepsBetween 21 = .ok (.isub, 1) := by decide +kernel
theorem dX10_stepsBetween_22 : decode cX10_stepsBetween 22 = .ok (.goto 6, 3) := by decide +kernel
theorem dX10_stepsBetween_25 : decode cX10_stepsBetween 25 = .ok (.iload_n 1, 1) := by decide +kernel
theorem dX10_stepsBetween_26 : decode cX10_stepsBetween 26 = .ok (.iload_n 3, 1) := by decide +kernel
theorem dX10_stepsBetween_27 : decode cX10_stepsBetween 27 = .ok (.isub, 1) := by decide +kernel
theorem dX10_stepsBetween_28 : decode cX10_stepsBetween 28 = .ok (.iadd, 1) := by decide +kernel
theorem dX10_stepsBetween_29 : decode cX10_stepsBetween 29 = .ok (.ireturn, 1) := by decide +kernel
def wNX10_far : Nat := 34163260883574658747237705909086435247489825685388928016818826961030829298644397347816122166954813008060662630894430264166518086167533481275079753448331822432903782179496639836719287737603033463906502825553032272280313458014891836164803556245991666681995350860946074995536615099516314558980794974184297975796385967018093083
theorem wX10_far_c : hz_cd cX10_far wNX10_far 134 := ⟨by decide +kernel, by decide +kernel⟩
theorem dX10_far_0 : decode cX10_far 0 = .ok (.iload_n 1, 1) := dw_27 wX10_far_c rfl
theorem dX10_far_1 : decode cX10_far 1 = .ok (.aload_n 0, 1) := dw_42 wX10_far_c rfl
theorem dX10_far_2 : decode cX10_far 2 = .ok (.getfield 468, 3) := dw_180 wX10_far_c 1 212 rfl rfl
theorem dX10_far_5 : decode cX10_far 5 = .ok (.if_icmp .ne 8, 3) := dw_160 wX10_far_c 0 8 rfl rfl rfl
theorem dX10_far_8 : decode cX10_far 8 = .ok (.bipush 50, 2) := dw_16 wX10_far_c 50 rfl rfl rfl
theorem dX10_far_10 : decode cX10_far 10 = .ok (.goto 19, 3) := dw_167 wX10_far_c 0 19 rfl rfl rfl
theorem dX10_far_13 : decode cX10_far 13 = .ok (.aload_n 0, 1) := dw_42 wX10_far_c rfl
theorem dX10_far_14 : decode cX10_far 14 = .ok (.getfield 47, 3) := dw_180 wX10_far_c 0 47 rfl rfl
theorem dX10_far_17 : decode cX10_far 17 = .ok (.aload_n 0, 1) := dw_42 wX10_far_c rfl
theorem dX10_far_18 : decode cX10_far 18 = .ok (.getfield 84, 3) := dw_180 wX10_far_c 0 84 rfl rfl
theorem dX10_far_21 : decode cX10_far 21 = .ok (.aload_n 0, 1) := dw_42 wX10_far_c rfl
theorem dX10_far_22 : decode cX10_far 22 = .ok (.getfield 201, 3) := dw_180 wX10_far_c 0 201 rfl rfl
theorem dX10_far_25 : decode cX10_far 25 = .ok (.iload_n 1, 1) := dw_27 wX10_far_c rfl
theorem dX10_far_26 : decode cX10_far 26 = .ok (.iaload, 1) := dw_46 wX10_far_c rfl
theorem dX10_far_27 : decode cX10_far 27 = .ok (.iaload, 1) := dw_46 wX10_far_c rfl
theorem dX10_far_28 : decode cX10_far 28 = .ok (.iaload, 1) := dw_46 wX10_far_c rfl
theorem dX10_far_29 : decode cX10_far 29 = .ok (.istore_n 3, 1) := dw_62 wX10_far_c rfl
theorem dX10_far_30 : decode cX10_far 30 = .ok (.iload_n 1, 1) := dw_27 wX10_far_c rfl
theorem dX10_far_31 : decode cX10_far 31 = .ok (.aload_n 0, 1) := dw_42 wX10_far_c rfl
theorem dX10_far_32 : decode cX10_far 32 = .ok (.getfield 468, 3) := dw_180 wX10_far_c 1 212 rfl rfl
theorem dX10_far_35 : decode cX10_far 35 = .ok (.if_icmp .ne 8, 3) := dw_160 wX10_far_c 0 8 rfl rfl rfl
theorem dX10_far_38 : decode cX10_far 38 = .ok (.bipush 50, 2) := dw_16 wX10_far_c 50 rfl rfl rfl
theorem dX10_far_40 : decode cX10_far 40 = .ok (.goto 19, 3) := dw_167 wX10_far_c 0 19 rfl rfl rfl
theorem dX10_far_43 : decode cX10_far 43 = .ok (.aload_n 0, 1) := dw_42 wX10_far_c rfl
theorem dX10_far_44 : decode cX10_far 44 = .ok (.getfield 50, 3) := dw_180 wX10_far_c 0 50 rfl rfl
theorem dX10_far_47 : decode cX10_far 47 = .ok (.aload_n 0, 1) := dw_42 wX10_far_c rfl
theorem dX10_far_48 : decode cX10_far 48 = .ok (.getfield 84, 3) := dw_180 wX10_far_c 0 84 rfl rfl
theorem dX10_far_51 : decode cX10_far 51 = .ok (.aload_n 0, 1) := dw_42 wX10_far_c rfl
theorem dX10_far_52 : decode cX10_far 52 = .ok (.getfield 201, 3) := dw_180 wX10_far_c 0 201 rfl rfl
theorem dX10_far_55 : decode cX10_far 55 = .ok (.iload_n 1, 1) := dw_27 wX10_far_c rfl
theorem dX10_far_56 : decode cX10_far 56 = .ok (.iaload, 1) := dw_46 wX10_far_c rfl
theorem dX10_far_57 : decode cX10_far 57 = .ok (.iaload, 1) := dw_46 wX10_far_c rfl
theorem dX10_far_58 : decode cX10_far 58 = .ok (.iaload, 1) := dw_46 wX10_far_c rfl
theorem dX10_far_59 : decode cX10_far 59 = .ok (.istore 4, 2) := dw_54 wX10_far_c 4 rfl
theorem dX10_far_61 : decode cX10_far 61 = .ok (.iload_n 2, 1) := dw_28 wX10_far_c rfl
theorem dX10_far_62 : decode cX10_far 62 = .ok (.aload_n 0, 1) := dw_42 wX10_far_c rfl
theorem dX10_far_63 : decode cX10_far 63 = .ok (.getfield 468, 3) := dw_180 wX10_far_c 1 212 rfl rfl
theorem dX10_far_66 : decode cX10_far 66 = .ok (.if_icmp .ne 8, 3) := dw_160 wX10_far_c 0 8 rfl rfl rfl
theorem dX10_far_69 : decode cX10_far 69 = .ok (.bipush 50, 2) := dw_16 wX10_far_c 50 rfl rfl rfl
theorem dX10_far_71 : decode cX10_far 71 = .ok (.goto 19, 3) := dw_167 wX10_far_c 0 19 rfl rfl rfl
theorem dX10_far_74 : decode cX10_far 74 = .ok (.aload_n 0, 1) := dw_42 wX10_far_c rfl
theorem dX10_far_75 : decode cX10_far 75 = .ok (.getfield 47, 3) := dw_180 wX10_far_c 0 47 rfl rfl
theorem dX10_far_78 : decode cX10_far 78 = .ok (.aload_n 0, 1) := dw_42 wX10_far_c rfl
theorem dX10_far_79 : decode cX10_far 79 = .ok (.getfield 84, 3) := dw_180 wX10_far_c 0 84 rfl rfl
theorem dX10_far_82 : decode cX10_far 82 = .ok (.aload_n 0, 1) := dw_42 wX10_far_c rfl
theorem dX10_far_83 : decode cX10_far 83 = .ok (.getfield 201, 3) := dw_180 wX10_far_c 0 201 rfl rfl
theorem dX10_far_86 : decode cX10_far 86 = .ok (.iload_n 2, 1) := dw_28 wX10_far_c rfl
theorem dX10_far_87 : decode cX10_far 87 = .ok (.iaload, 1) := dw_46 wX10_far_c rfl
theorem dX10_far_88 : decode cX10_far 88 = .ok (.iaload, 1) := dw_46 wX10_far_c rfl
theorem dX10_far_89 : decode cX10_far 89 = .ok (.iaload, 1) := dw_46 wX10_far_c rfl
theorem dX10_far_90 : decode cX10_far 90 = .ok (.istore 5, 2) := dw_54 wX10_far_c 5 rfl
theorem dX10_far_92 : decode cX10_far 92 = .ok (.iload_n 2, 1) := dw_28 wX10_far_c rfl
theorem dX10_far_93 : decode cX10_far 93 = .ok (.aload_n 0, 1) := dw_42 wX10_far_c rfl
theorem dX10_far_94 : decode cX10_far 94 = .ok (.getfield 468, 3) := dw_180 wX10_far_c 1 212 rfl rfl
theorem dX10_far_97 : decode cX10_far 97 = .ok (.if_icmp .ne 8, 3) := dw_160 wX10_far_c 0 8 rfl rfl rfl
theorem dX10_far_100 : decode cX10_far 100 = .ok (.bipush 50, 2) := dw_16 wX10_far_c 50 rfl rfl rfl
theorem dX10_far_102 : decode cX10_far 102 = .ok (.goto 19, 3) := dw_167 wX10_far_c 0 19 rfl rfl rfl
theorem dX10_far_105 : decode cX10_far 105 = .ok (.aload_n 0, 1) := dw_42 wX10_far_c rfl
theorem dX10_far_106 : decode cX10_far 106 = .ok (.getfield 50, 3) := dw_180 wX10_far_c 0 50 rfl rfl
theorem dX10_far_109 : decode cX10_far 109 = .ok (.aload_n 0, 1) := dw_42 wX10_far_c rfl
theorem dX10_far_110 : decode cX10_far 110 = .ok (.getfield 84, 3) := dw_180 wX10_far_c 0 84 rfl rfl
theorem dX10_far_113 : decode cX10_far 113 = .ok (.aload_n 0, 1) := dw_42 wX10_far_c rfl
theorem dX10_far_114 : decode cX10_far 114 = .ok (.getfield 201, 3) := dw_180 wX10_far_c 0 201 rfl rfl
theorem dX10_far_117 : decode cX10_far 117 = .ok (.iload_n 2, 1) := dw_28 wX10_far_c rfl
theorem dX10_far_118 : decode cX10_far 118 = .ok (.iaload, 1) := dw_46 wX10_far_c rfl
theorem dX10_far_119 : decode cX10_far 119 = .ok (.iaload, 1) := dw_46 wX10_far_c rfl
theorem dX10_far_120 : decode cX10_far 120 = .ok (.iaload, 1) := dw_46 wX10_far_c rfl
theorem dX10_far_121 : decode cX10_far 121 = .ok (.istore 6, 2) := dw_54 wX10_far_c 6 rfl
theorem dX10_far_123 : decode cX10_far 123 = .ok (.iload_n 3, 1) := dw_29 wX10_far_c rfl
theorem dX10_far_124 : decode cX10_far 124 = .ok (.iload 4, 2) := dw_21 wX10_far_c 4 rfl
theorem dX10_far_126 : decode cX10_far 126 = .ok (.iload 5, 2) := dw_21 wX10_far_c 5 rfl
theorem dX10_far_128 : decode cX10_far 128 = .ok (.iload 6, 2) := dw_21 wX10_far_c 6 rfl
theorem dX10_far_130 : decode cX10_far 130 = .ok (.invokestatic 471, 3) := dw_184 wX10_far_c 1 215 rfl rfl
theorem dX10_far_133 : decode cX10_far 133 = .ok (.ireturn, 1) := dw_172 wX10_far_c rfl
theorem dX10_walked_0 : decode cX10_walked 0 = .ok (.iload_n 1, 1) := by decide +kernel
theorem dX10_walked_1 : decode cX10_walked 1 = .ok (.iconst 0, 1) := by decide +kernel
theorem dX10_walked_2 : decode cX10_walked 2 = .ok (.aload_n 0, 1) := by decide +kernel
theorem dX10_walked_3 : decode cX10_walked 3 = .ok (.getfield 478, 3) := by decide +kernel
theorem dX10_walked_6 : decode cX10_walked 6 = .ok (.iconst 1, 1) := by decide +kernel
theorem dX10_walked_7 : decode cX10_walked 7 = .ok (.isub, 1) := by decide +kernel
theorem dX10_walked_8 : decode cX10_walked 8 = .ok (.invokestatic 228, 3) := by decide +kernel
theorem dX10_walked_11 : decode cX10_walked 11 = .ok (.ifCond .eq 12, 3) := by decide +kernel
theorem dX10_walked_14 : decode cX10_walked 14 = .ok (.aload_n 0, 1) := by decide +kernel
theorem dX10_walked_15 : decode cX10_walked 15 = .ok (.getfield 204, 3) := by decide +kernel
theorem dX10_walked_18 : decode cX10_walked 18 = .ok (.iload_n 1, 1) := by decide +kernel
theorem dX10_walked_19 : decode cX10_walked 19 = .ok (.iaload, 1) := by decide +kernel
theorem dX10_walked_20 : decode cX10_walked 20 = .ok (.goto 4, 3) := by decide +kernel
theorem dX10_walked_23 : decode cX10_walked 23 = .ok (.iconst (-1), 1) := by decide +kernel
theorem dX10_walked_24 : decode cX10_walked 24 = .ok (.ireturn, 1) := by decide +kernel