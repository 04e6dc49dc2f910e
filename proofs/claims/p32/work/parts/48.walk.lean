section
def wNX10_list : Nat := 7953714702318784824191021161298062469731560554962398564967595076098299762601195826694183736516347780815382747817884472761869781076634859108907050780891903469538974177313147413205227153724629969514494564275083493188921600029240559913759560944077493773348933690857794499131620930797936797807008587433979307164572458
theorem wX10_list_c : hz_cd cX10_list wNX10_list 130 := ⟨by decide +kernel, by decide +kernel⟩
theorem dX10_list_0 : decode cX10_list 0 = .ok (.aload_n 0, 1) := dw_42 wX10_list_c rfl
theorem dX10_list_1 : decode cX10_list 1 = .ok (.iload_n 1, 1) := dw_27 wX10_list_c rfl
theorem dX10_list_2 : decode cX10_list 2 = .ok (.invokevirtual 370, 3) := dw_182 wX10_list_c 1 114 rfl rfl
theorem dX10_list_5 : decode cX10_list 5 = .ok (.ifCond .eq 32, 3) := dw_153 wX10_list_c 0 32 rfl rfl rfl
theorem dX10_list_8 : decode cX10_list 8 = .ok (.aload_n 0, 1) := dw_42 wX10_list_c rfl
theorem dX10_list_9 : decode cX10_list 9 = .ok (.getfield 108, 3) := dw_180 wX10_list_c 0 108 rfl rfl
theorem dX10_list_12 : decode cX10_list 12 = .ok (.iload_n 1, 1) := dw_27 wX10_list_c rfl
theorem dX10_list_13 : decode cX10_list 13 = .ok (.iaload, 1) := dw_46 wX10_list_c rfl
theorem dX10_list_14 : decode cX10_list 14 = .ok (.iconst (-1), 1) := dw_2 wX10_list_c rfl
theorem dX10_list_15 : decode cX10_list 15 = .ok (.if_icmp .ne 22, 3) := dw_160 wX10_list_c 0 22 rfl rfl rfl
theorem dX10_list_18 : decode cX10_list 18 = .ok (.aload_n 0, 1) := dw_42 wX10_list_c rfl
theorem dX10_list_19 : decode cX10_list 19 = .ok (.getfield 111, 3) := dw_180 wX10_list_c 0 111 rfl rfl
theorem dX10_list_22 : decode cX10_list 22 = .ok (.iload_n 1, 1) := dw_27 wX10_list_c rfl
theorem dX10_list_23 : decode cX10_list 23 = .ok (.iaload, 1) := dw_46 wX10_list_c rfl
theorem dX10_list_24 : decode cX10_list 24 = .ok (.iconst (-1), 1) := dw_2 wX10_list_c rfl
theorem dX10_list_25 : decode cX10_list 25 = .ok (.if_icmp .ne 12, 3) := dw_160 wX10_list_c 0 12 rfl rfl rfl
theorem dX10_list_28 : decode cX10_list 28 = .ok (.aload_n 0, 1) := dw_42 wX10_list_c rfl
theorem dX10_list_29 : decode cX10_list 29 = .ok (.getfield 468, 3) := dw_180 wX10_list_c 1 212 rfl rfl
theorem dX10_list_32 : decode cX10_list 32 = .ok (.bipush 8, 2) := dw_16 wX10_list_c 8 rfl rfl rfl
theorem dX10_list_34 : decode cX10_list 34 = .ok (.if_icmp .ne 5, 3) := dw_160 wX10_list_c 0 5 rfl rfl rfl
theorem dX10_list_37 : decode cX10_list 37 = .ok (.iconst (-1), 1) := dw_2 wX10_list_c rfl
theorem dX10_list_38 : decode cX10_list 38 = .ok (.ireturn, 1) := dw_172 wX10_list_c rfl
theorem dX10_list_39 : decode cX10_list 39 = .ok (.iconst 0, 1) := dw_3 wX10_list_c rfl
theorem dX10_list_40 : decode cX10_list 40 = .ok (.istore_n 2, 1) := dw_61 wX10_list_c rfl
theorem dX10_list_41 : decode cX10_list 41 = .ok (.iload_n 2, 1) := dw_28 wX10_list_c rfl
theorem dX10_list_42 : decode cX10_list 42 = .ok (.aload_n 0, 1) := dw_42 wX10_list_c rfl
theorem dX10_list_43 : decode cX10_list 43 = .ok (.getfield 468, 3) := dw_180 wX10_list_c 1 212 rfl rfl
theorem dX10_list_46 : decode cX10_list 46 = .ok (.if_icmp .ge 21, 3) := dw_162 wX10_list_c 0 21 rfl rfl rfl
theorem dX10_list_49 : decode cX10_list 49 = .ok (.aload_n 0, 1) := dw_42 wX10_list_c rfl
theorem dX10_list_50 : decode cX10_list 50 = .ok (.getfield 201, 3) := dw_180 wX10_list_c 0 201 rfl rfl
theorem dX10_list_53 : decode cX10_list 53 = .ok (.iload_n 2, 1) := dw_28 wX10_list_c rfl
theorem dX10_list_54 : decode cX10_list 54 = .ok (.iaload, 1) := dw_46 wX10_list_c rfl
theorem dX10_list_55 : decode cX10_list 55 = .ok (.iload_n 1, 1) := dw_27 wX10_list_c rfl
theorem dX10_list_56 : decode cX10_list 56 = .ok (.if_icmp .ne 5, 3) := dw_160 wX10_list_c 0 5 rfl rfl rfl
theorem dX10_list_59 : decode cX10_list 59 = .ok (.iconst (-1), 1) := dw_2 wX10_list_c rfl
theorem dX10_list_60 : decode cX10_list 60 = .ok (.ireturn, 1) := dw_172 wX10_list_c rfl
theorem dX10_list_61 : decode cX10_list 61 = .ok (.iinc 2 1, 3) := dw_132 wX10_list_c 2 1 rfl rfl rfl
theorem dX10_list_64 : decode cX10_list 64 = .ok (.goto (-23), 3) := dn_167 wX10_list_c 255 233 rfl (by decide)
theorem dX10_list_67 : decode cX10_list 67 = .ok (.aload_n 0, 1) := dw_42 wX10_list_c rfl
theorem dX10_list_68 : decode cX10_list 68 = .ok (.getfield 468, 3) := dw_180 wX10_list_c 1 212 rfl rfl
theorem dX10_list_71 : decode cX10_list 71 = .ok (.istore_n 2, 1) := dw_61 wX10_list_c rfl
theorem dX10_list_72 : decode cX10_list 72 = .ok (.iload_n 2, 1) := dw_28 wX10_list_c rfl
theorem dX10_list_73 : decode cX10_list 73 = .ok (.ifCond .le 35, 3) := dw_158 wX10_list_c 0 35 rfl rfl rfl
theorem dX10_list_76 : decode cX10_list 76 = .ok (.aload_n 0, 1) := dw_42 wX10_list_c rfl
theorem dX10_list_77 : decode cX10_list 77 = .ok (.getfield 201, 3) := dw_180 wX10_list_c 0 201 rfl rfl
theorem dX10_list_80 : decode cX10_list 80 = .ok (.iload_n 2, 1) := dw_28 wX10_list_c rfl
theorem dX10_list_81 : decode cX10_list 81 = .ok (.iconst 1, 1) := dw_4 wX10_list_c rfl
theorem dX10_list_82 : decode cX10_list 82 = .ok (.isub, 1) := dw_100 wX10_list_c rfl
theorem dX10_list_83 : decode cX10_list 83 = .ok (.iaload, 1) := dw_46 wX10_list_c rfl
theorem dX10_list_84 : decode cX10_list 84 = .ok (.iload_n 1, 1) := dw_27 wX10_list_c rfl
theorem dX10_list_85 : decode cX10_list 85 = .ok (.if_icmp .le 23, 3) := dw_164 wX10_list_c 0 23 rfl rfl rfl
theorem dX10_list_88 : decode cX10_list 88 = .ok (.aload_n 0, 1) := dw_42 wX10_list_c rfl
theorem dX10_list_89 : decode cX10_list 89 = .ok (.getfield 201, 3) := dw_180 wX10_list_c 0 201 rfl rfl
theorem dX10_list_92 : decode cX10_list 92 = .ok (.iload_n 2, 1) := dw_28 wX10_list_c rfl
theorem dX10_list_93 : decode cX10_list 93 = .ok (.aload_n 0, 1) := dw_42 wX10_list_c rfl
theorem dX10_list_94 : decode cX10_list 94 = .ok (.getfield 201, 3) := dw_180 wX10_list_c 0 201 rfl rfl
theorem dX10_list_97 : decode cX10_list 97 = .ok (.iload_n 2, 1) := dw_28 wX10_list_c rfl
theorem dX10_list_98 : decode cX10_list 98 = .ok (.iconst 1, 1) := dw_4 wX10_list_c rfl
theorem dX10_list_99 : decode cX10_list 99 = .ok (.isub, 1) := dw_100 wX10_list_c rfl
theorem dX10_list_100 : decode cX10_list 100 = .ok (.iaload, 1) := dw_46 wX10_list_c rfl
theorem dX10_list_101 : decode cX10_list 101 = .ok (.iastore, 1) := dw_79 wX10_list_c rfl
theorem dX10_list_102 : decode cX10_list 102 = .ok (.iinc 2 (-1), 3) := dn_132 wX10_list_c 2 255 rfl (by decide)
theorem dX10_list_105 : decode cX10_list 105 = .ok (.goto (-33), 3) := dn_167 wX10_list_c 255 223 rfl (by decide)
theorem dX10_list_108 : decode cX10_list 108 = .ok (.aload_n 0, 1) := dw_42 wX10_list_c rfl
theorem dX10_list_109 : decode cX10_list 109 = .ok (.getfield 201, 3) := dw_180 wX10_list_c 0 201 rfl rfl
theorem dX10_list_112 : decode cX10_list 112 = .ok (.iload_n 2, 1) := dw_28 wX10_list_c rfl
theorem dX10_list_113 : decode cX10_list 113 = .ok (.iload_n 1, 1) := dw_27 wX10_list_c rfl
theorem dX10_list_114 : decode cX10_list 114 = .ok (.iastore, 1) := dw_79 wX10_list_c rfl
theorem dX10_list_115 : decode cX10_list 115 = .ok (.aload_n 0, 1) := dw_42 wX10_list_c rfl
theorem dX10_list_116 : decode cX10_list 116 = .ok (.dup, 1) := dw_89 wX10_list_c rfl
theorem dX10_list_117 : decode cX10_list 117 = .ok (.getfield 468, 3) := dw_180 wX10_list_c 1 212 rfl rfl
theorem dX10_list_120 : decode cX10_list 120 = .ok (.iconst 1, 1) := dw_4 wX10_list_c rfl
theorem dX10_list_121 : decode cX10_list 121 = .ok (.iadd, 1) := dw_96 wX10_list_c rfl
theorem dX10_list_122 : decode cX10_list 122 = .ok (.putfield 468, 3) := dw_181 wX10_list_c 1 212 rfl rfl
theorem dX10_list_125 : decode cX10_list 125 = .ok (.aload_n 0, 1) := dw_42 wX10_list_c rfl
theorem dX10_list_126 : decode cX10_list 126 = .ok (.getfield 468, 3) := dw_180 wX10_list_c 1 212 rfl rfl
theorem dX10_list_129 : decode cX10_list 129 = .ok (.ireturn, 1) := dw_172 wX10_list_c rfl
theorem dX10_stepsBetween_0 : decode cX10_stepsBetween 0 = .ok (.iload_n 0, 1) := by decide +kernel
theorem dX10_stepsBetween_1 : decode cX10_stepsBetween 1 = .ok (.iload_n 2, 1) := by decide +kernel
theorem dX10_stepsBetween_2 : decode cX10_stepsBetween 2 = .ok (.if_icmp .ge 9, 3) := by decide +kernel
theorem dX10_stepsBetween_5 : decode cX10_stepsBetween 5 = .ok (.iload_n 2, 1) := by decide +kernel
theorem dX10_stepsBetween_6 : decode cX10_stepsBetween 6 = .ok (.iload_n 0, 1) := by decide +kernel
theorem dX10_stepsBetween_7 : decode cX10_stepsBetween 7 = .ok (.isub, 1) := by decide +kernel
theorem dX10_stepsBetween_8 : decode cX10_stepsBetween 8 = .ok (.goto 6, 3) := by decide +kernel
theorem dX10_stepsBetween_11 : decode cX10_stepsBetween 11 = .ok (.iload_n 0, 1) := by decide +kernel
theorem dX10_stepsBetween_12 : decode cX10_stepsBetween 12 = .ok (.iload_n 2, 1) := by decide +kernel
theorem dX10_stepsBetween_13 : decode cX10_stepsBetween 13 = .ok (.isub, 1) := by decide +kernel
theorem dX10_stepsBetween_14 : decode cX10_stepsBetween 14 = .ok (.iload_n 1, 1) := by decide +kernel
theorem dX10_stepsBetween_15 : decode cX10_stepsBetween 15 = .ok (.iload_n 3, 1) := by decide +kernel
theorem dX10_stepsBetween_16 : decode cX10_stepsBetween 16 = .ok (.if_icmp .ge 9, 3) := by decide +kernel
theorem dX10_stepsBetween_19 : decode cX10_stepsBetween 19 = .ok (.iload_n 3, 1) := by decide +kernel
theorem dX10_stepsBetween_20 : decode cX10_stepsBetween 20 = .ok (.iload_n 1, 1) := by decide +kernel
theorem dX10_stepsBetween_21 : decode cX10_stepsBetween 21 = .ok (.isub, 1) := by decide +kernel
theorem dX10_stepsBetween_22 : decode cX10_stepsBetween 22 = .ok (.goto 6, 3) := by decide +kernel
theorem dX10_stepsBetween_25 : decode cX10_stepsBetween 25 = .ok (.iload_n 1, 1) := by decide +kernel
theorem dX10_stepsBetween_26 : decode cX10_stepsBetween 26 = .ok (.iload_n 3, 1) := by decide +kernel
theorem dX10_stepsBetween_27 : decode cX10_stepsBetween 27 = .ok (.isub, 1) := by decide +kernel
theorem dX10_stepsBetween_28 : decode cX10_stepsBetween 28 = .ok (.iadd, 1) := by decide +kernel
theorem dX10_stepsBetween_29 : decode cX10_stepsBetween 29 = .ok (.ireturn, 1) := by decide +kernel
def wNX10_far : Nat := 34163260883574658747237705909086435247489825685388928016818826961030829298644397347816122166954813008060662630894430264166518086167533481275079753448331822432903782179496639836719287737603033463906502825553032272280313458014891836164803556245991666681995350860946074995536615099516314558980794974184297975796385967018093083
theorem wX10_far_c : hz_cd cX10_far wNX10_far 134 := ⟨by decide +kernel, by decide +kernel⟩
theorem dX10_far_0 : decode cX10_far 0 = .ok (.iload_n 1, 1) := dw_27 wX10_far_c rfl
theorem dX10_far_1 : decode cX10_far 1 = .ok (.aload_n 0, 1) := dw_42 wX10_far_c rfl
theorem dX10_far_2 : decode cX10_far 2 = .ok (.getfield 468, 3) := dw_180 wX10_far_c 1 212 rfl rfl
theorem dX10_far_5 : decode cX10_far 5 = .ok (.if_icmp .ne 8, 3) := dw_160 wX10_far_c 0 8 rfl rfl rfl
theorem dX10_far_8 : decode cX10_far 8 = .ok (.bipush 50, 2) := dw_16 wX10_far_c 50 rfl rfl rfl
theorem dX10_far_10 : decode cX10_far 10 = .ok (.goto 19, 3) := dw_167 wX10_far_c 0 19 rfl rfl rfl
theorem dX10_far_13 : decode cX10_far 13 = .ok (.aload_n 0, 1) := dw_42 wX10_far_c rfl
theorem dX10_far_14 : decode cX10_far 14 = .ok (.getfield 47, 3) := dw_180 wX10_far_c 0 47 rfl rfl
theorem dX10_far_17 : decode cX10_far 17 = .ok (.aload_n 0, 1) := dw_42 wX10_far_c rfl
theorem dX10_far_18 : decode cX10_far 18 = .ok (.getfield 84, 3) := dw_180 wX10_far_c 0 84 rfl rfl
theorem dX10_far_21 : decode cX10_far 21 = .ok (.aload_n 0, 1) := dw_42 wX10_far_c rfl
theorem dX10_far_22 : decode cX10_far 22 = .ok (.getfield 201, 3) := dw_180 wX10_far_c 0 201 rfl rfl
theorem dX10_far_25 : decode cX10_far 25 = .ok (.iload_n 1, 1) := dw_27 wX10_far_c rfl
theorem dX10_far_26 : decode cX10_far 26 = .ok (.iaload, 1) := dw_46 wX10_far_c rfl
theorem dX10_far_27 : decode cX10_far 27 = .ok (.iaload, 1) := dw_46 wX10_far_c rfl
theorem dX10_far_28 : decode cX10_far 28 = .ok (.iaload, 1) := dw_46 wX10_far_c rfl
theorem dX10_far_29 : decode cX10_far 29 = .ok (.istore_n 3, 1) := dw_62 wX10_far_c rfl
theorem dX10_far_30 : decode cX10_far 30 = .ok (.iload_n 1, 1) := dw_27 wX10_far_c rfl
theorem dX10_far_31 : decode cX10_far 31 = .ok (.aload_n 0, 1) := dw_42 wX10_far_c rfl
theorem dX10_far_32 : decode cX10_far 32 = .ok (.getfield 468, 3) := dw_180 wX10_far_c 1 212 rfl rfl
theorem dX10_far_35 : decode cX10_far 35 = .ok (.if_icmp .ne 8, 3) := dw_160 wX10_far_c 0 8 rfl rfl rfl
theorem dX10_far_38 : decode cX10_far 38 = .ok (.bipush 50, 2) := dw_16 wX10_far_c 50 rfl rfl rfl
theorem dX10_far_40 : decode cX10_far 40 = .ok (.goto 19, 3) := dw_167 wX10_far_c 0 19 rfl rfl rfl
theorem dX10_far_43 : decode cX10_far 43 = .ok (.aload_n 0, 1) := dw_42 wX10_far_c rfl
theorem dX10_far_44 : decode cX10_far 44 = .ok (.getfield 50, 3) := dw_180 wX10_far_c 0 50 rfl rfl
theorem dX10_far_47 : decode cX10_far 47 = .ok (.aload_n 0, 1) := dw_42 wX10_far_c rfl
theorem dX10_far_48 : decode cX10_far 48 = .ok (.getfield 84, 3) := dw_180 wX10_far_c 0 84 rfl rfl
theorem dX10_far_51 : decode cX10_far 51 = .ok (.aload_n 0, 1) := dw_42 wX10_far_c rfl
theorem dX10_far_52 : decode cX10_far 52 = .ok (.getfield 201, 3) := dw_180 wX10_far_c 0 201 rfl rfl
theorem dX10_far_55 : decode cX10_far 55 = .ok (.iload_n 1, 1) := dw_27 wX10_far_c rfl
theorem dX10_far_56 : decode cX10_far 56 = .ok (.iaload, 1) := dw_46 wX10_far_c rfl
theorem dX10_far_57 : decode cX10_far 57 = .ok (.iaload, 1) := dw_46 wX10_far_c rfl
theorem dX10_far_58 : decode cX10_far 58 = .ok (.iaload, 1) := dw_46 wX10_far_c rfl
theorem dX10_far_59 : decode cX10_far 59 = .ok (.istore 4, 2) := dw_54 wX10_far_c 4 rfl
theorem dX10_far_61 : decode cX10_far 61 = .ok (.iload_n 2, 1) := dw_28 wX10_far_c rfl
theorem dX10_far_62 : decode cX10_far 62 = .ok (.aload_n 0, 1) := dw_42 wX10_far_c rfl
theorem dX10_far_63 : decode cX10_far 63 = .ok (.getfield 468, 3) := dw_180 wX10_far_c 1 212 rfl rfl
theorem dX10_far_66 : decode cX10_far 66 = .ok (.if_icmp .ne 8, 3) := dw_160 wX10_far_c 0 8 rfl rfl rfl
theorem dX10_far_69 : decode cX10_far 69 = .ok (.bipush 50, 2) := dw_16 wX10_far_c 50 rfl rfl rfl
theorem dX10_far_71 : decode cX10_far 71 = .ok (.goto 19, 3) := dw_167 wX10_far_c 0 19 rfl rfl rfl
theorem dX10_far_74 : decode cX10_far 74 = .ok (.aload_n 0, 1) := dw_42 wX10_far_c rfl
theorem dX10_far_75 : decode cX10_far 75 = .ok (.getfield 47, 3) := dw_180 wX10_far_c 0 47 rfl rfl
theorem dX10_far_78 : decode cX10_far 78 = .ok (.aload_n 0, 1) := dw_42 wX10_far_c rfl
theorem dX10_far_79 : decode cX10_far 79 = .ok (.getfield 84, 3) := dw_180 wX10_far_c 0 84 rfl rfl
theorem dX10_far_82 : decode cX10_far 82 = .ok (.aload_n 0, 1) := dw_42 wX10_far_c rfl
theorem dX10_far_83 : decode cX10_far 83 = .ok (.getfield 201, 3) := dw_180 wX10_far_c 0 201 rfl rfl
theorem dX10_far_86 : decode cX10_far 86 = .ok (.iload_n 2, 1) := dw_28 wX10_far_c rfl
theorem dX10_far_87 : decode cX10_far 87 = .ok (.iaload, 1) := dw_46 wX10_far_c rfl
theorem dX10_far_88 : decode cX10_far 88 = .ok (.iaload, 1) := dw_46 wX10_far_c rfl
theorem dX10_far_89 : decode cX10_far 89 = .ok (.iaload, 1) := dw_46 wX10_far_c rfl
theorem dX10_far_90 : decode cX10_far 90 = .ok (.istore 5, 2) := dw_54 wX10_far_c 5 rfl
theorem dX10_far_92 : decode cX10_far 92 = .ok (.iload_n 2, 1) := dw_28 wX10_far_c rfl
theorem dX10_far_93 : decode cX10_far 93 = .ok (.aload_n 0, 1) := dw_42 wX10_far_c rfl
theorem dX10_far_94 : decode cX10_far 94 = .ok (.getfield 468, 3) := dw_180 wX10_far_c 1 212 rfl rfl
theorem dX10_far_97 : decode cX10_far 97 = .ok (.if_icmp .ne 8, 3) := dw_160 wX10_far_c 0 8 rfl rfl rfl
theorem dX10_far_100 : decode cX10_far 100 = .ok (.bipush 50, 2) := dw_16 wX10_far_c 50 rfl rfl rfl
theorem dX10_far_102 : decode cX10_far 102 = .ok (.goto 19, 3) := dw_167 wX10_far_c 0 19 rfl rfl rfl
theorem dX10_far_105 : decode cX10_far 105 = .ok (.aload_n 0, 1) := dw_42 wX10_far_c rfl
theorem dX10_far_106 : decode cX10_far 106 = .ok (.getfield 50, 3) := dw_180 wX10_far_c 0 50 rfl rfl
theorem dX10_far_109 : decode cX10_far 109 = .ok (.aload_n 0, 1) := dw_42 wX10_far_c rfl
theorem dX10_far_110 : decode cX10_far 110 = .ok (.getfield 84, 3) := dw_180 wX10_far_c 0 84 rfl rfl
theorem dX10_far_113 : decode cX10_far 113 = .ok (.aload_n 0, 1) := dw_42 wX10_far_c rfl
theorem dX10_far_114 : decode cX10_far 114 = .ok (.getfield 201, 3) := dw_180 wX10_far_c 0 201 rfl rfl
theorem dX10_far_117 : decode cX10_far 117 = .ok (.iload_n 2, 1) := dw_28 wX10_far_c rfl
theorem dX10_far_118 : decode cX10_far 118 = .ok (.iaload, 1) := dw_46 wX10_far_c rfl
theorem dX10_far_119 : decode cX10_far 119 = .ok (.iaload, 1) := dw_46 wX10_far_c rfl
theorem dX10_far_120 : decode cX10_far 120 = .ok (.iaload, 1) := dw_46 wX10_far_c rfl
theorem dX10_far_121 : decode cX10_far 121 = .ok (.istore 6, 2) := dw_54 wX10_far_c 6 rfl
theorem dX10_far_123 : decode cX10_far 123 = .ok (.iload_n 3, 1) := dw_29 wX10_far_c rfl
theorem dX10_far_124 : decode cX10_far 124 = .ok (.iload 4, 2) := dw_21 wX10_far_c 4 rfl
theorem dX10_far_126 : decode cX10_far 126 = .ok (.iload 5, 2) := dw_21 wX10_far_c 5 rfl
theorem dX10_far_128 : decode cX10_far 128 = .ok (.iload 6, 2) := dw_21 wX10_far_c 6 rfl
theorem dX10_far_130 : decode cX10_far 130 = .ok (.invokestatic 471, 3) := dw_184 wX10_far_c 1 215 rfl rfl
theorem dX10_far_133 : decode cX10_far 133 = .ok (.ireturn, 1) := dw_172 wX10_far_c rfl
theorem dX10_walked_0 : decode cX10_walked 0 = .ok (.iload_n 1, 1) := by decide +kernel
theorem dX10_walked_1 : decode cX10_walked 1 = .ok (.iconst 0, 1) := by decide +kernel
theorem dX10_walked_2 : decode cX10_walked 2 = .ok (.aload_n 0, 1) := by decide +kernel
theorem dX10_walked_3 : decode cX10_walked 3 = .ok (.getfield 478, 3) := by decide +kernel
theorem dX10_walked_6 : decode cX10_walked 6 = .ok (.iconst 1, 1) := by decide +kernel
theorem dX10_walked_7 : decode cX10_walked 7 = .ok (.isub, 1) := by decide +kernel
theorem dX10_walked_8 : decode cX10_walked 8 = .ok (.invokestatic 228, 3) := by decide +kernel
theorem dX10_walked_11 : decode cX10_walked 11 = .ok (.ifCond .eq 12, 3) := by decide +kernel
theorem dX10_walked_14 : decode cX10_walked 14 = .ok (.aload_n 0, 1) := by decide +kernel
theorem dX10_walked_15 : decode cX10_walked 15 = .ok (.getfield 204, 3) := by decide +kernel
theorem dX10_walked_18 : decode cX10_walked 18 = .ok (.iload_n 1, 1) := by decide +kernel
theorem dX10_walked_19 : decode cX10_walked 19 = .ok (.iaload, 1) := by decide +kernel
theorem dX10_walked_20 : decode cX10_walked 20 = .ok (.goto 4, 3) := by decide +kernel
theorem dX10_walked_23 : decode cX10_walked 23 = .ok (.iconst (-1), 1) := by decide +kernel
theorem dX10_walked_24 : decode cX10_walked 24 = .ok (.ireturn, 1) := by decide +kernel
end
section
def wNX10_habits : Nat := 2092066042974856502037152827752837385431568859046397840040063598662589567915805445260810604744575320945812096855754209869600735037417875587565345901934313789434495281804855562135904097479232999557609602515943831016275088357823533424505266583739094837139874442168513477834613781989900857544040109392186835967170380586
theorem wX10_habits_c : hz_cd cX10_habits wNX10_habits 131 := ⟨by decide +kernel, by decide +kernel⟩
theorem dX10_habits_0 : decode cX10_habits 0 = .ok (.aload_n 0, 1) := dw_42 wX10_habits_c rfl
theorem dX10_habits_1 : decode cX10_habits 1 = .ok (.iconst 0, 1) := dw_3 wX10_habits_c rfl
theorem dX10_habits_2 : decode cX10_habits 2 = .ok (.putfield 481, 3) := dw_181 wX10_habits_c 1 225 rfl rfl
theorem dX10_habits_5 : decode cX10_habits 5 = .ok (.aload_n 0, 1) := dw_42 wX10_habits_c rfl
theorem dX10_habits_6 : decode cX10_habits 6 = .ok (.iconst 0, 1) := dw_3 wX10_habits_c rfl
theorem dX10_habits_7 : decode cX10_habits 7 = .ok (.putfield 484, 3) := dw_181 wX10_habits_c 1 228 rfl rfl
theorem dX10_habits_10 : decode cX10_habits 10 = .ok (.aload_n 0, 1) := dw_42 wX10_habits_c rfl
theorem dX10_habits_11 : decode cX10_habits 11 = .ok (.getfield 392, 3) := dw_180 wX10_habits_c 1 136 rfl rfl
theorem dX10_habits_14 : decode cX10_habits 14 = .ok (.iconst 1, 1) := dw_4 wX10_habits_c rfl
theorem dX10_habits_15 : decode cX10_habits 15 = .ok (.isub, 1) := dw_100 wX10_habits_c rfl
theorem dX10_habits_16 : decode cX10_habits 16 = .ok (.istore_n 2, 1) := dw_61 wX10_habits_c rfl
theorem dX10_habits_17 : decode cX10_habits 17 = .ok (.iload_n 2, 1) := dw_28 wX10_habits_c rfl
theorem dX10_habits_18 : decode cX10_habits 18 = .ok (.ifCond .lt 112, 3) := dw_155 wX10_habits_c 0 112 rfl rfl rfl
theorem dX10_habits_21 : decode cX10_habits 21 = .ok (.aload_n 0, 1) := dw_42 wX10_habits_c rfl
theorem dX10_habits_22 : decode cX10_habits 22 = .ok (.getfield 481, 3) := dw_180 wX10_habits_c 1 225 rfl rfl
theorem dX10_habits_25 : decode cX10_habits 25 = .ok (.bipush 60, 2) := dw_16 wX10_habits_c 60 rfl rfl rfl
theorem dX10_habits_27 : decode cX10_habits 27 = .ok (.if_icmp .ge 103, 3) := dw_162 wX10_habits_c 0 103 rfl rfl rfl
theorem dX10_habits_30 : decode cX10_habits 30 = .ok (.aload_n 0, 1) := dw_42 wX10_habits_c rfl
theorem dX10_habits_31 : decode cX10_habits 31 = .ok (.getfield 141, 3) := dw_180 wX10_habits_c 0 141 rfl rfl
theorem dX10_habits_34 : decode cX10_habits 34 = .ok (.iload_n 2, 1) := dw_28 wX10_habits_c rfl
theorem dX10_habits_35 : decode cX10_habits 35 = .ok (.iaload, 1) := dw_46 wX10_habits_c rfl
theorem dX10_habits_36 : decode cX10_habits 36 = .ok (.istore_n 3, 1) := dw_62 wX10_habits_c rfl
theorem dX10_habits_37 : decode cX10_habits 37 = .ok (.aload_n 0, 1) := dw_42 wX10_habits_c rfl
theorem dX10_habits_38 : decode cX10_habits 38 = .ok (.getfield 123, 3) := dw_180 wX10_habits_c 0 123 rfl rfl
theorem dX10_habits_41 : decode cX10_habits 41 = .ok (.iload_n 3, 1) := dw_29 wX10_habits_c rfl
theorem dX10_habits_42 : decode cX10_habits 42 = .ok (.iaload, 1) := dw_46 wX10_habits_c rfl
theorem dX10_habits_43 : decode cX10_habits 43 = .ok (.iconst 4, 1) := dw_7 wX10_habits_c rfl
theorem dX10_habits_44 : decode cX10_habits 44 = .ok (.if_icmp .lt 80, 3) := dw_161 wX10_habits_c 0 80 rfl rfl rfl
theorem dX10_habits_47 : decode cX10_habits 47 = .ok (.aload_n 0, 1) := dw_42 wX10_habits_c rfl
theorem dX10_habits_48 : decode cX10_habits 48 = .ok (.getfield 126, 3) := dw_180 wX10_habits_c 0 126 rfl rfl
theorem dX10_habits_51 : decode cX10_habits 51 = .ok (.iconst 3, 1) := dw_6 wX10_habits_c rfl
theorem dX10_habits_52 : decode cX10_habits 52 = .ok (.iload_n 3, 1) := dw_29 wX10_habits_c rfl
theorem dX10_habits_53 : decode cX10_habits 53 = .ok (.imul, 1) := dw_104 wX10_habits_c rfl
theorem dX10_habits_54 : decode cX10_habits 54 = .ok (.iaload, 1) := dw_46 wX10_habits_c rfl
theorem dX10_habits_55 : decode cX10_habits 55 = .ok (.iload_n 1, 1) := dw_27 wX10_habits_c rfl
theorem dX10_habits_56 : decode cX10_habits 56 = .ok (.if_icmp .eq 34, 3) := dw_159 wX10_habits_c 0 34 rfl rfl rfl
theorem dX10_habits_59 : decode cX10_habits 59 = .ok (.aload_n 0, 1) := dw_42 wX10_habits_c rfl
theorem dX10_habits_60 : decode cX10_habits 60 = .ok (.getfield 126, 3) := dw_180 wX10_habits_c 0 126 rfl rfl
theorem dX10_habits_63 : decode cX10_habits 63 = .ok (.iconst 3, 1) := dw_6 wX10_habits_c rfl
theorem dX10_habits_64 : decode cX10_habits 64 = .ok (.iload_n 3, 1) := dw_29 wX10_habits_c rfl
theorem dX10_habits_65 : decode cX10_habits 65 = .ok (.imul, 1) := dw_104 wX10_habits_c rfl
theorem dX10_habits_66 : decode cX10_habits 66 = .ok (.iconst 1, 1) := dw_4 wX10_habits_c rfl
theorem dX10_habits_67 : decode cX10_habits 67 = .ok (.iadd, 1) := dw_96 wX10_habits_c rfl
theorem dX10_habits_68 : decode cX10_habits 68 = .ok (.iaload, 1) := dw_46 wX10_habits_c rfl
theorem dX10_habits_69 : decode cX10_habits 69 = .ok (.iload_n 1, 1) := dw_27 wX10_habits_c rfl
theorem dX10_habits_70 : decode cX10_habits 70 = .ok (.if_icmp .eq 20, 3) := dw_159 wX10_habits_c 0 20 rfl rfl rfl
theorem dX10_habits_73 : decode cX10_habits 73 = .ok (.aload_n 0, 1) := dw_42 wX10_habits_c rfl
theorem dX10_habits_74 : decode cX10_habits 74 = .ok (.getfield 126, 3) := dw_180 wX10_habits_c 0 126 rfl rfl
theorem dX10_habits_77 : decode cX10_habits 77 = .ok (.iconst 3, 1) := dw_6 wX10_habits_c rfl
theorem dX10_habits_78 : decode cX10_habits 78 = .ok (.iload_n 3, 1) := dw_29 wX10_habits_c rfl
theorem dX10_habits_79 : decode cX10_habits 79 = .ok (.imul, 1) := dw_104 wX10_habits_c rfl
theorem dX10_habits_80 : decode cX10_habits 80 = .ok (.iconst 2, 1) := dw_5 wX10_habits_c rfl
theorem dX10_habits_81 : decode cX10_habits 81 = .ok (.iadd, 1) := dw_96 wX10_habits_c rfl
theorem dX10_habits_82 : decode cX10_habits 82 = .ok (.iaload, 1) := dw_46 wX10_habits_c rfl
theorem dX10_habits_83 : decode cX10_habits 83 = .ok (.iload_n 1, 1) := dw_27 wX10_habits_c rfl
theorem dX10_habits_84 : decode cX10_habits 84 = .ok (.if_icmp .eq 6, 3) := dw_159 wX10_habits_c 0 6 rfl rfl rfl
theorem dX10_habits_87 : decode cX10_habits 87 = .ok (.goto 37, 3) := dw_167 wX10_habits_c 0 37 rfl rfl rfl
theorem dX10_habits_90 : decode cX10_habits 90 = .ok (.aload_n 0, 1) := dw_42 wX10_habits_c rfl
theorem dX10_habits_91 : decode cX10_habits 91 = .ok (.dup, 1) := dw_89 wX10_habits_c rfl
theorem dX10_habits_92 : decode cX10_habits 92 = .ok (.getfield 481, 3) := dw_180 wX10_habits_c 1 225 rfl rfl
theorem dX10_habits_95 : decode cX10_habits 95 = .ok (.iconst 1, 1) := dw_4 wX10_habits_c rfl
theorem dX10_habits_96 : decode cX10_habits 96 = .ok (.iadd, 1) := dw_96 wX10_habits_c rfl
theorem dX10_habits_97 : decode cX10_habits 97 = .ok (.putfield 481, 3) := dw_181 wX10_habits_c 1 225 rfl rfl
theorem dX10_habits_100 : decode cX10_habits 100 = .ok (.aload_n 0, 1) := dw_42 wX10_habits_c rfl
theorem dX10_habits_101 : decode cX10_habits 101 = .ok (.dup, 1) := dw_89 wX10_habits_c rfl
theorem dX10_habits_102 : decode cX10_habits 102 = .ok (.getfield 484, 3) := dw_180 wX10_habits_c 1 228 rfl rfl
theorem dX10_habits_105 : decode cX10_habits 105 = .ok (.aload_n 0, 1) := dw_42 wX10_habits_c rfl
theorem dX10_habits_106 : decode cX10_habits 106 = .ok (.getfield 123, 3) := dw_180 wX10_habits_c 0 123 rfl rfl
theorem dX10_habits_109 : decode cX10_habits 109 = .ok (.iload_n 3, 1) := dw_29 wX10_habits_c rfl
theorem dX10_habits_110 : decode cX10_habits 110 = .ok (.iaload, 1) := dw_46 wX10_habits_c rfl
theorem dX10_habits_111 : decode cX10_habits 111 = .ok (.iconst 5, 1) := dw_8 wX10_habits_c rfl
theorem dX10_habits_112 : decode cX10_habits 112 = .ok (.if_icmp .ne 7, 3) := dw_160 wX10_habits_c 0 7 rfl rfl rfl
theorem dX10_habits_115 : decode cX10_habits 115 = .ok (.iconst 1, 1) := dw_4 wX10_habits_c rfl
theorem dX10_habits_116 : decode cX10_habits 116 = .ok (.goto 4, 3) := dw_167 wX10_habits_c 0 4 rfl rfl rfl
theorem dX10_habits_119 : decode cX10_habits 119 = .ok (.iconst 0, 1) := dw_3 wX10_habits_c rfl
theorem dX10_habits_120 : decode cX10_habits 120 = .ok (.iadd, 1) := dw_96 wX10_habits_c rfl
theorem dX10_habits_121 : decode cX10_habits 121 = .ok (.putfield 484, 3) := dw_181 wX10_habits_c 1 228 rfl rfl
theorem dX10_habits_124 : decode cX10_habits 124 = .ok (.iinc 2 (-1), 3) := dn_132 wX10_habits_c 2 255 rfl (by decide)
theorem dX10_habits_127 : decode cX10_habits 127 = .ok (.goto (-110), 3) := dn_167 wX10_habits_c 255 146 rfl (by decide)
theorem dX10_habits_130 : decode cX10_habits 130 = .ok (.return_, 1) := dw_177 wX10_habits_c rfl
set_option maxHeartbeats 4000000 in
set_option maxRecDepth 100000 in
theorem t_X10_habits (l : Launch) (dC : Nat → ClassId) (dI : Nat → Nat → Nat) (dA : Nat → ClassId) (L : List Nat) (h : hx_h) (sz : Nat) (x : Nat) (i1 : Int32) (hT : hx_T T_tb L h) (gx : hx_g L h x 10)  : Met l yX10_habits (Cond.code yX10_habits cX10_habits 4 none :: hx_all) ({ frames := 0, cells := 0, slots := 0, locals := 0 }) (va_Pc [.ref x, .int i1] (hx_B T_tb (P_ty dA) (dC, dI) vwCl L h sz)) (va_Qv (fun (u : List Nat × hx_h) => (∃ (hm1 : Int32) (hp1 : Int32), u.2.2.1 x 95 = hm1 ∧ u.2.2.1 x 96 = hp1 ∧ (hp1.toInt ≤ hm1.toInt)) ∧ hx_T T_tb u.1 u.2 ∧ hx_S T_tb [(10, 95), (10, 96)] L h u.1 u.2) (hx_E T_tb (P_ty dA) (dC, dI) vwCl (hx_A L sz)) (hx_A L sz)) 0 0 (hx_A L sz) := by
  refine hx_met (lv := [(0, .ref x), (1, .int i1)]) (by decide +kernel) rfl (Nat.le_of_ble_eq_true rfl) rfl ?_
  intro p e s m below meth c hx hb hml hr hlk hts0 hown hin hsz hW ls hl
  have hts : ∀ w ∈ hx_all, w.before _ s = true := fun w hw => hts0 w (List.mem_cons_of_mem _ hw)
  have hown : s.vm.findClass "SmallCourtModel" = some m.cls := hown
  have hM : hx_S T_tb [(10, 95), (10, 96)] L h L h := hx_S.rf
  refine lv_aload_n hx hb dX10_habits_0 rfl (lv_at hl 0 rfl) ?_
  refine lv_iconst (v := 0) hx hb dX10_habits_1 ?o0 ?_
  case o0 => decide
  refine hx_puti hx hb hts hC_10 hown hW hT (hx_S.rf (M := [(10, 95)])) (gx.S hM) tt_10 95 ?o1 rfl kw_1238 ⟨rfl, rfl, rfl⟩ rfl (x := (0 : Int32)) ?o2 rfl rfl rfl (List.mem_singleton.mpr rfl) dX10_habits_2 (fun H locs h_1 eh_1 hW hT hs => ?_)
  case o1 => decide
  case o2 => decide
  replace hM := hM.tr (hs.mono ?o3)
  case o3 => decide
  have f_2 : h_1.2.1 x 95 = (0 : Int32) := ?o4
  case o4 =>
    rw [eh_1]
    exact hx_pi_at _ _ _ _
  refine lv_aload_n hx hb dX10_habits_5 rfl (lv_at hl 0 rfl) ?_
  refine lv_iconst (v := 0) hx hb dX10_habits_6 ?o5 ?_
  case o5 => decide
  refine hx_puti hx hb hts hC_10 hown hW hT (hx_S.rf (M := [(10, 96)])) (gx.S hM) tt_10 96 ?o6 rfl kw_1239 ⟨rfl, rfl, rfl⟩ rfl (x := (0 : Int32)) ?o7 rfl rfl rfl (List.mem_singleton.mpr rfl) dX10_habits_7 (fun H locs h_3 eh_3 hW hT hs => ?_)
  case o6 => decide
  case o7 => decide
  replace f_2 := (hs.o (gx.S hM) trivial rfl).1.trans f_2
  replace hM := hM.tr (hs.mono ?o8)
  case o8 => decide
  have f_4 : h_3.2.1 x 96 = (0 : Int32) := ?o9
  case o9 =>
    rw [eh_3]
    exact hx_pi_at _ _ _ _
  refine lv_aload_n hx hb dX10_habits_10 rfl (lv_at hl 0 rfl) ?_
  refine hx_geti hx hb hts hC_10 hown hW hT (gx.S hM) tt_10 57 ?o10 rfl kw_1200 ⟨rfl, rfl, rfl⟩ dX10_habits_11 (fun x_5 ex_5 lx_5 ux_5 => ?_)
  case o10 => decide
  have fx_5 := ex_5.symm
  refine lv_iconst (v := 1) hx hb dX10_habits_14 ?o11 ?_
  case o11 => decide
  refine lv_isub hx hb dX10_habits_15 ?_
  have rg_6 := i32_r x_5
  refine lv_topi (fun x_7 ex_7 => ?_)
  have zx_7 : x_7.toInt = x_5.toInt - 1 := ?o12
  case o12 =>
    rw [ex_7]
    refine i32_sub rfl ?o13 ?o14 ?o15
    case o13 => decide
    case o14 => omega
    case o15 => omega
  refine lv_istore_n (lv' := [(2, .int x_7), (0, .ref x), (1, .int i1)]) hx hb dX10_habits_16 rfl hl ?o16 rfl (fun ls hl => ?_)
  case o16 => decide
  have loop17 : ∀ (n17 : Nat) (iv17_2 fw17_x_95 fw17_x_96 : Int32) (H : Heap) (locs : List Loc) (hL1 : List Nat) (hl1 : hx_h), -1 ≤ iv17_2.toInt → iv17_2.toInt ≤ 99 → 0 ≤ fw17_x_95.toInt → fw17_x_95.toInt ≤ 60 → 0 ≤ fw17_x_96.toInt → fw17_x_96.toInt ≤ 60 → (fw17_x_96.toInt ≤ fw17_x_95.toInt) → ∀ (ls : Array Slot), iv17_2.toInt + 1 < (n17 : Int) → hx_W T_tb (P_ty dA) (dC, dI) vwCl (hx_A L sz) s.heap hL1 hl1 s H locs → hx_T T_tb hL1 hl1 → hx_S T_tb [(10, 95), (10, 96)] L h hL1 hl1 → hl1.2.1 x 95 = fw17_x_95 → hl1.2.1 x 96 = fw17_x_96 → hl1.2.1 x 57 = x_5 → lv_has ls 4 [(2, .int iv17_2), (0, .ref x), (1, .int i1)] → W p l e ({ frames := 0, cells := 0, slots := 0, locals := 0 }) s m ([.ref x, .int i1] : List Value).toArray below meth c H locs 0 0 (MQ below (va_Qv (fun (u : List Nat × hx_h) => (∃ (hm1 : Int32) (hp1 : Int32), u.2.2.1 x 95 = hm1 ∧ u.2.2.1 x 96 = hp1 ∧ (hp1.toInt ≤ hm1.toInt)) ∧ hx_T T_tb u.1 u.2 ∧ hx_S T_tb [(10, 95), (10, 96)] L h u.1 u.2) (hx_E T_tb (P_ty dA) (dC, dI) vwCl (hx_A L sz)) (hx_A L sz)) ([.ref x, .int i1] : List Value).toArray s 0 0 (hx_A L sz)) (F0 m 17 ls []) := by
    intro n17
    induction n17 with
    | zero => intro iv17_2 fw17_x_95 fw17_x_96 H locs hL1 hl1 bliv17_2 buiv17_2 blfw17_x_95 bufw17_x_95 blfw17_x_96 bufw17_x_96 vi17_0 ls hn17; exfalso; omega
    | succ n17 ih17 =>
      intro iv17_2 fw17_x_95 fw17_x_96 H locs hL1 hl1 bliv17_2 buiv17_2 blfw17_x_95 bufw17_x_95 blfw17_x_96 bufw17_x_96 vi17_0 ls hn17 hW hT hM ffw17_x_95 ffw17_x_96 fx_5  hl
      refine lv_iload_n hx hb dX10_habits_17 rfl (lv_at hl 0 rfl) ?_
      refine hb_if_lt (zx := iv17_2.toInt) (tgt := 130) hx hb rfl dX10_habits_18 ?o17 (fun c_8 => ?_) (fun c_8 => ?_)
      case o17 => decide
      · skip
        exact hx_retv hx hb hr hlk hW ⟨⟨fw17_x_95, fw17_x_96, ffw17_x_95, ffw17_x_96, (by first | omega | (refine ⟨?_, ?_⟩ <;> omega))⟩, hT, hM⟩ dX10_habits_130
      · skip
        refine lv_aload_n hx hb dX10_habits_21 rfl (lv_at hl 1 rfl) ?_
        refine hk_geti hx hb hts hC_10 hown hW (gx.S hM) tt_10 95 ?o18 rfl kw_1238 ⟨rfl, rfl, rfl⟩ ffw17_x_95 dX10_habits_22 ?_
        case o18 => decide
        refine lv_bipush (v := 60) hx hb dX10_habits_25 ?o19 ?_
        case o19 => decide
        refine hb_icmp_ge (zx := fw17_x_95.toInt) (zy := 60) (tgt := 130) hx hb rfl ?o20 dX10_habits_27 ?o21 (fun c_9 => ?_) (fun c_9 => ?_)
        case o20 => decide
        case o21 => decide
        · skip
          exact hx_retv hx hb hr hlk hW ⟨⟨fw17_x_95, fw17_x_96, ffw17_x_95, ffw17_x_96, (by first | omega | (refine ⟨?_, ?_⟩ <;> omega))⟩, hT, hM⟩ dX10_habits_130
        · skip
          refine lv_aload_n hx hb dX10_habits_30 rfl (lv_at hl 1 rfl) ?_
          refine hx_getn hx hb hts hC_10 hown hW hT (gx.S hM) tt_10 58 ?o22 rfl kw_1201 ⟨rfl, rfl, rfl⟩ dX10_habits_31 (fun q_10 fq_10 gq_10 => ?_)
          case o22 => decide
          refine lv_iload_n hx hb dX10_habits_34 rfl (lv_at hl 0 rfl) ?_
          refine hx_iald hx hb hW hT gq_10 tt_92 rfl ⟨?o23, ?o24⟩ dX10_habits_35 (fun x_11 ex_11 lx_11 ux_11 => ?_)
          case o23 => omega
          case o24 => omega
          refine lv_istore_n (lv' := [(3, .int x_11), (2, .int iv17_2), (0, .ref x), (1, .int i1)]) hx hb dX10_habits_36 rfl hl ?o25 rfl (fun ls hl => ?_)
          case o25 => decide
          refine lv_aload_n hx hb dX10_habits_37 rfl (lv_at hl 2 rfl) ?_
          refine hx_getn hx hb hts hC_10 hown hW hT (gx.S hM) tt_10 51 ?o26 rfl kw_1194 ⟨rfl, rfl, rfl⟩ dX10_habits_38 (fun q_12 fq_12 gq_12 => ?_)
          case o26 => decide
          refine lv_iload_n hx hb dX10_habits_41 rfl (lv_at hl 0 rfl) ?_
          refine hx_iald hx hb hW hT gq_12 tt_86 rfl ⟨?o27, ?o28⟩ dX10_habits_42 (fun x_13 ex_13 lx_13 ux_13 => ?_)
          case o27 => omega
          case o28 => omega
          refine lv_iconst (v := 4) hx hb dX10_habits_43 ?o29 ?_
          case o29 => decide
          refine hb_icmp_lt (zx := x_13.toInt) (zy := 4) (tgt := 124) hx hb rfl ?o30 dX10_habits_44 ?o31 (fun c_14 => ?_) (fun c_14 => ?_)
          case o30 => decide
          case o31 => decide
          · skip
            obtain ⟨x_15, ex_15⟩ : ∃ y : Int32, y = iv17_2 + Int32.ofInt (-1) := ⟨_, rfl⟩
            have rg_16 := i32_r iv17_2
            have zx_15 : x_15.toInt = iv17_2.toInt + (-1) := ?o32
            case o32 =>
              rw [ex_15]
              refine i32_add rfl ?o33 ?o34 ?o35
              case o33 => decide
              case o34 => omega
              case o35 => omega
            refine lv_iinc (v := x_15) (lv' := [(2, .int x_15), (3, .int x_11), (0, .ref x), (1, .int i1)]) hx hb dX10_habits_124 hl (k := 1) rfl ex_15.symm ?o36 rfl (fun ls hl => ?_)
            case o36 => decide
            refine lv_goto (tgt := 17) hx hb dX10_habits_127 ?o37 ?_
            case o37 => decide
            refine ih17 x_15 fw17_x_95 fw17_x_96 _ _ hL1 hl1 ?o38 ?o39 ?o40 ?o41 ?o42 ?o43 ?o44 ls ?o45 hW hT hM ffw17_x_95 ffw17_x_96 fx_5  (lv_sub hl [0, 2, 3] rfl)
            case o38 => omega
            case o39 => omega
            case o40 => omega
            case o41 => omega
            case o42 => omega
            case o43 => omega
            case o44 => omega
            case o45 => omega
          · skip
            refine lv_aload_n hx hb dX10_habits_47 rfl (lv_at hl 2 rfl) ?_
            refine hx_getn hx hb hts hC_10 hown hW hT (gx.S hM) tt_10 52 ?o46 rfl kw_1195 ⟨rfl, rfl, rfl⟩ dX10_habits_48 (fun q_17 fq_17 gq_17 => ?_)
            case o46 => decide
            refine lv_iconst (v := 3) hx hb dX10_habits_51 ?o47 ?_
            case o47 => decide
            refine lv_iload_n hx hb dX10_habits_52 rfl (lv_at hl 0 rfl) ?_
            refine lv_imul hx hb dX10_habits_53 ?_
            refine lv_topi (fun x_18 ex_18 => ?_)
            have zx_18 : x_18.toInt = 3 * x_11.toInt := ?o48
            case o48 =>
              rw [ex_18]
              refine i32_mul ?o49 rfl rfl ?o50 ?o51
              case o49 => decide
              case o50 => omega
              case o51 => omega
            refine hx_iald hx hb hW hT gq_17 tt_87 rfl ⟨?o52, ?o53⟩ dX10_habits_54 (fun x_19 ex_19 lx_19 ux_19 => ?_)
            case o52 => omega
            case o53 => omega
            refine lv_iload_n hx hb dX10_habits_55 rfl (lv_at hl 3 rfl) ?_
            refine hb_icmp_eq (zx := x_19.toInt) (zy := i1.toInt) (tgt := 90) hx hb rfl rfl dX10_habits_56 ?o54 (fun c_20 => ?_) (fun c_20 => ?_)
            case o54 => decide
            · skip
              refine lv_aload_n hx hb dX10_habits_90 rfl (lv_at hl 2 rfl) ?_
              refine lv_dup hx hb dX10_habits_91 rfl ?_
              refine hk_geti hx hb hts hC_10 hown hW (gx.S hM) tt_10 95 ?o55 rfl kw_1238 ⟨rfl, rfl, rfl⟩ ffw17_x_95 dX10_habits_92 ?_
              case o55 => decide
              refine lv_iconst (v := 1) hx hb dX10_habits_95 ?o56 ?_
              case o56 => decide
              refine lv_iadd hx hb dX10_habits_96 ?_
              have rg_21 := i32_r fw17_x_95
              refine lv_topi (fun x_22 ex_22 => ?_)
              have zx_22 : x_22.toInt = fw17_x_95.toInt + 1 := ?o57
              case o57 =>
                rw [ex_22]
                refine i32_add rfl ?o58 ?o59 ?o60
                case o58 => decide
                case o59 => omega
                case o60 => omega
              refine hx_puti hx hb hts hC_10 hown hW hT (hx_S.rf (M := [(10, 95)])) (gx.S hM) tt_10 95 ?o61 rfl kw_1238 ⟨rfl, rfl, rfl⟩ rfl (x := x_22) ⟨?o62, ?o63⟩ rfl rfl rfl (List.mem_singleton.mpr rfl) dX10_habits_97 (fun H locs h_23 eh_23 hW hT hs => ?_)
              case o61 => decide
              case o62 => omega
              case o63 => omega
              replace fx_5 := (hs.o (gx.S hM) trivial rfl).1.trans fx_5
              replace ffw17_x_96 := (hs.o (gx.S hM) trivial rfl).1.trans ffw17_x_96
              replace fq_10 := (hs.o (gx.S hM) trivial rfl).2.trans fq_10
              replace fq_12 := (hs.o (gx.S hM) trivial rfl).2.trans fq_12
              replace fq_17 := (hs.o (gx.S hM) trivial rfl).2.trans fq_17
              replace ex_11 := ex_11.trans (hs.a gq_10 rfl _).1.symm
              replace ex_13 := ex_13.trans (hs.a gq_12 rfl _).1.symm
              replace ex_19 := ex_19.trans (hs.a gq_17 rfl _).1.symm
              replace hM := hM.tr (hs.mono ?o64)
              case o64 => decide
              replace gq_10 := gq_10.S hs
              replace gq_12 := gq_12.S hs
              replace gq_17 := gq_17.S hs
              have f_24 : h_23.2.1 x 95 = x_22 := ?o65
              case o65 =>
                rw [eh_23]
                exact hx_pi_at _ _ _ _
              refine lv_aload_n hx hb dX10_habits_100 rfl (lv_at hl 2 rfl) ?_
              refine lv_dup hx hb dX10_habits_101 rfl ?_
              refine hk_geti hx hb hts hC_10 hown hW (gx.S hM) tt_10 96 ?o66 rfl kw_1239 ⟨rfl, rfl, rfl⟩ ffw17_x_96 dX10_habits_102 ?_
              case o66 => decide
              refine lv_aload_n hx hb dX10_habits_105 rfl (lv_at hl 2 rfl) ?_
              refine hk_getr hx hb hts hC_10 hown hW (gx.S hM) tt_10 51 ?o67 rfl kw_1194 ⟨rfl, rfl, rfl⟩ fq_12 dX10_habits_106 ?_
              case o67 => decide
              refine lv_iload_n hx hb dX10_habits_109 rfl (lv_at hl 0 rfl) ?_
              refine hx_iald hx hb hW hT gq_12 tt_86 rfl ⟨?o68, ?o69⟩ dX10_habits_110 (fun x_25 ex_25 lx_25 ux_25 => ?_)
              case o68 => omega
              case o69 => omega
              obtain rfl : x_13 = x_25 := ex_13.trans ex_25.symm
              refine lv_iconst (v := 5) hx hb dX10_habits_111 ?o70 ?_
              case o70 => decide
              have jn_120 : ∀ (xj_26 : Int32) (ls : Array Slot), 0 ≤ xj_26.toInt → xj_26.toInt ≤ 1 → lv_has ls 4 [(3, .int x_11), (2, .int iv17_2), (0, .ref x), (1, .int i1)] → W p l e ({ frames := 0, cells := 0, slots := 0, locals := 0 }) s m ([.ref x, .int i1] : List Value).toArray below meth c H locs 0 0 (MQ below (va_Qv (fun (u : List Nat × hx_h) => (∃ (hm1 : Int32) (hp1 : Int32), u.2.2.1 x 95 = hm1 ∧ u.2.2.1 x 96 = hp1 ∧ (hp1.toInt ≤ hm1.toInt)) ∧ hx_T T_tb u.1 u.2 ∧ hx_S T_tb [(10, 95), (10, 96)] L h u.1 u.2) (hx_E T_tb (P_ty dA) (dC, dI) vwCl (hx_A L sz)) (hx_A L sz)) ([.ref x, .int i1] : List Value).toArray s 0 0 (hx_A L sz)) (F0 m 120 ls [.int xj_26, .int fw17_x_96, .ref x]) := by
                intro xj_26 ls blxj_26 buxj_26 hl
                refine lv_iadd hx hb dX10_habits_120 ?_
                have rg_27 := i32_r fw17_x_96
                have rg_28 := i32_r xj_26
                refine lv_topi (fun x_29 ex_29 => ?_)
                have zx_29 : x_29.toInt = fw17_x_96.toInt + xj_26.toInt := ?o71
                case o71 =>
                  rw [ex_29]
                  refine i32_add rfl rfl ?o72 ?o73
                  case o72 => omega
                  case o73 => omega
                refine hx_puti hx hb hts hC_10 hown hW hT (hx_S.rf (M := [(10, 96)])) (gx.S hM) tt_10 96 ?o74 rfl kw_1239 ⟨rfl, rfl, rfl⟩ rfl (x := x_29) ⟨?o75, ?o76⟩ rfl rfl rfl (List.mem_singleton.mpr rfl) dX10_habits_121 (fun H locs h_30 eh_30 hW hT hs => ?_)
                case o74 => decide
                case o75 => omega
                case o76 => omega
                replace fx_5 := (hs.o (gx.S hM) trivial rfl).1.trans fx_5
                replace fq_10 := (hs.o (gx.S hM) trivial rfl).2.trans fq_10
                replace fq_12 := (hs.o (gx.S hM) trivial rfl).2.trans fq_12
                replace fq_17 := (hs.o (gx.S hM) trivial rfl).2.trans fq_17
                replace f_24 := (hs.o (gx.S hM) trivial rfl).1.trans f_24
                replace ex_11 := ex_11.trans (hs.a gq_10 rfl _).1.symm
                replace ex_13 := ex_13.trans (hs.a gq_12 rfl _).1.symm
                replace ex_19 := ex_19.trans (hs.a gq_17 rfl _).1.symm
                replace hM := hM.tr (hs.mono ?o77)
                case o77 => decide
                replace gq_10 := gq_10.S hs
                replace gq_12 := gq_12.S hs
                replace gq_17 := gq_17.S hs
                have f_31 : h_30.2.1 x 96 = x_29 := ?o78
                case o78 =>
                  rw [eh_30]
                  exact hx_pi_at _ _ _ _
                obtain ⟨x_32, ex_32⟩ : ∃ y : Int32, y = iv17_2 + Int32.ofInt (-1) := ⟨_, rfl⟩
                have rg_33 := i32_r iv17_2
                have zx_32 : x_32.toInt = iv17_2.toInt + (-1) := ?o79
                case o79 =>
                  rw [ex_32]
                  refine i32_add rfl ?o80 ?o81 ?o82
                  case o80 => decide
                  case o81 => omega
                  case o82 => omega
                refine lv_iinc (v := x_32) (lv' := [(2, .int x_32), (3, .int x_11), (0, .ref x), (1, .int i1)]) hx hb dX10_habits_124 hl (k := 1) rfl ex_32.symm ?o83 rfl (fun ls hl => ?_)
                case o83 => decide
                refine lv_goto (tgt := 17) hx hb dX10_habits_127 ?o84 ?_
                case o84 => decide
                refine ih17 x_32 x_22 x_29 _ _ hL1 h_30 ?o85 ?o86 ?o87 ?o88 ?o89 ?o90 ?o91 ls ?o92 hW hT hM f_24 f_31 fx_5  (lv_sub hl [0, 2, 3] rfl)
                case o85 => omega
                case o86 => omega
                case o87 => omega
                case o88 => omega
                case o89 => omega
                case o90 => omega
                case o91 => omega
                case o92 => omega
              refine hb_icmp_ne (zx := x_13.toInt) (zy := 5) (tgt := 119) hx hb rfl ?o93 dX10_habits_112 ?o94 (fun c_34 => ?_) (fun c_34 => ?_)
              case o93 => decide
              case o94 => decide
              · skip
                refine lv_iconst (v := 0) hx hb dX10_habits_119 ?o95 ?_
                case o95 => decide
                refine jn_120 (0 : Int32) ls ?o96 ?o97 hl
                case o96 => decide
                case o97 => decide
              · skip
                refine lv_iconst (v := 1) hx hb dX10_habits_115 ?o98 ?_
                case o98 => decide
                refine lv_goto (tgt := 120) hx hb dX10_habits_116 ?o99 ?_
                case o99 => decide
                refine jn_120 (1 : Int32) ls ?o100 ?o101 hl
                case o100 => decide
                case o101 => decide
            · skip
              refine lv_aload_n hx hb dX10_habits_59 rfl (lv_at hl 2 rfl) ?_
              refine hk_getr hx hb hts hC_10 hown hW (gx.S hM) tt_10 52 ?o102 rfl kw_1195 ⟨rfl, rfl, rfl⟩ fq_17 dX10_habits_60 ?_
              case o102 => decide
              refine lv_iconst (v := 3) hx hb dX10_habits_63 ?o103 ?_
              case o103 => decide
              refine lv_iload_n hx hb dX10_habits_64 rfl (lv_at hl 0 rfl) ?_
              refine lv_imul hx hb dX10_habits_65 ?_
              refine lv_topi (fun x_35 ex_35 => ?_)
              have zx_35 : x_35.toInt = 3 * x_11.toInt := ?o104
              case o104 =>
                rw [ex_35]
                refine i32_mul ?o105 rfl rfl ?o106 ?o107
                case o105 => decide
                case o106 => omega
                case o107 => omega
              refine lv_iconst (v := 1) hx hb dX10_habits_66 ?o108 ?_
              case o108 => decide
              refine lv_iadd hx hb dX10_habits_67 ?_
              have rg_36 := i32_r x_35
              refine lv_topi (fun x_37 ex_37 => ?_)
              have zx_37 : x_37.toInt = x_35.toInt + 1 := ?o109
              case o109 =>
                rw [ex_37]
                refine i32_add rfl ?o110 ?o111 ?o112
                case o110 => decide
                case o111 => omega
                case o112 => omega
              refine hx_iald hx hb hW hT gq_17 tt_87 rfl ⟨?o113, ?o114⟩ dX10_habits_68 (fun x_38 ex_38 lx_38 ux_38 => ?_)
              case o113 => omega
              case o114 => omega
              refine lv_iload_n hx hb dX10_habits_69 rfl (lv_at hl 3 rfl) ?_
              refine hb_icmp_eq (zx := x_38.toInt) (zy := i1.toInt) (tgt := 90) hx hb rfl rfl dX10_habits_70 ?o115 (fun c_39 => ?_) (fun c_39 => ?_)
              case o115 => decide
              · skip
                refine lv_aload_n hx hb dX10_habits_90 rfl (lv_at hl 2 rfl) ?_
                refine lv_dup hx hb dX10_habits_91 rfl ?_
                refine hk_geti hx hb hts hC_10 hown hW (gx.S hM) tt_10 95 ?o116 rfl kw_1238 ⟨rfl, rfl, rfl⟩ ffw17_x_95 dX10_habits_92 ?_
                case o116 => decide
                refine lv_iconst (v := 1) hx hb dX10_habits_95 ?o117 ?_
                case o117 => decide
                refine lv_iadd hx hb dX10_habits_96 ?_
                have rg_40 := i32_r fw17_x_95
                refine lv_topi (fun x_41 ex_41 => ?_)
                have zx_41 : x_41.toInt = fw17_x_95.toInt + 1 := ?o118
                case o118 =>
                  rw [ex_41]
                  refine i32_add rfl ?o119 ?o120 ?o121
                  case o119 => decide
                  case o120 => omega
                  case o121 => omega
                refine hx_puti hx hb hts hC_10 hown hW hT (hx_S.rf (M := [(10, 95)])) (gx.S hM) tt_10 95 ?o122 rfl kw_1238 ⟨rfl, rfl, rfl⟩ rfl (x := x_41) ⟨?o123, ?o124⟩ rfl rfl rfl (List.mem_singleton.mpr rfl) dX10_habits_97 (fun H locs h_42 eh_42 hW hT hs => ?_)
                case o122 => decide
                case o123 => omega
                case o124 => omega
                replace fx_5 := (hs.o (gx.S hM) trivial rfl).1.trans fx_5
                replace ffw17_x_96 := (hs.o (gx.S hM) trivial rfl).1.trans ffw17_x_96
                replace fq_10 := (hs.o (gx.S hM) trivial rfl).2.trans fq_10
                replace fq_12 := (hs.o (gx.S hM) trivial rfl).2.trans fq_12
                replace fq_17 := (hs.o (gx.S hM) trivial rfl).2.trans fq_17
                replace ex_11 := ex_11.trans (hs.a gq_10 rfl _).1.symm
                replace ex_13 := ex_13.trans (hs.a gq_12 rfl _).1.symm
                replace ex_19 := ex_19.trans (hs.a gq_17 rfl _).1.symm
                replace ex_38 := ex_38.trans (hs.a gq_17 rfl _).1.symm
                replace hM := hM.tr (hs.mono ?o125)
                case o125 => decide
                replace gq_10 := gq_10.S hs
                replace gq_12 := gq_12.S hs
                replace gq_17 := gq_17.S hs
                have f_43 : h_42.2.1 x 95 = x_41 := ?o126
                case o126 =>
                  rw [eh_42]
                  exact hx_pi_at _ _ _ _
                refine lv_aload_n hx hb dX10_habits_100 rfl (lv_at hl 2 rfl) ?_
                refine lv_dup hx hb dX10_habits_101 rfl ?_
                refine hk_geti hx hb hts hC_10 hown hW (gx.S hM) tt_10 96 ?o127 rfl kw_1239 ⟨rfl, rfl, rfl⟩ ffw17_x_96 dX10_habits_102 ?_
                case o127 => decide
                refine lv_aload_n hx hb dX10_habits_105 rfl (lv_at hl 2 rfl) ?_
                refine hk_getr hx hb hts hC_10 hown hW (gx.S hM) tt_10 51 ?o128 rfl kw_1194 ⟨rfl, rfl, rfl⟩ fq_12 dX10_habits_106 ?_
                case o128 => decide
                refine lv_iload_n hx hb dX10_habits_109 rfl (lv_at hl 0 rfl) ?_
                refine hx_iald hx hb hW hT gq_12 tt_86 rfl ⟨?o129, ?o130⟩ dX10_habits_110 (fun x_44 ex_44 lx_44 ux_44 => ?_)
                case o129 => omega
                case o130 => omega
                obtain rfl : x_13 = x_44 := ex_13.trans ex_44.symm
                refine lv_iconst (v := 5) hx hb dX10_habits_111 ?o131 ?_
                case o131 => decide
                have jn_120 : ∀ (xj_45 : Int32) (ls : Array Slot), 0 ≤ xj_45.toInt → xj_45.toInt ≤ 1 → lv_has ls 4 [(3, .int x_11), (2, .int iv17_2), (0, .ref x), (1, .int i1)] → W p l e ({ frames := 0, cells := 0, slots := 0, locals := 0 }) s m ([.ref x, .int i1] : List Value).toArray below meth c H locs 0 0 (MQ below (va_Qv (fun (u : List Nat × hx_h) => (∃ (hm1 : Int32) (hp1 : Int32), u.2.2.1 x 95 = hm1 ∧ u.2.2.1 x 96 = hp1 ∧ (hp1.toInt ≤ hm1.toInt)) ∧ hx_T T_tb u.1 u.2 ∧ hx_S T_tb [(10, 95), (10, 96)] L h u.1 u.2) (hx_E T_tb (P_ty dA) (dC, dI) vwCl (hx_A L sz)) (hx_A L sz)) ([.ref x, .int i1] : List Value).toArray s 0 0 (hx_A L sz)) (F0 m 120 ls [.int xj_45, .int fw17_x_96, .ref x]) := by
                  intro xj_45 ls blxj_45 buxj_45 hl
                  refine lv_iadd hx hb dX10_habits_120 ?_
                  have rg_46 := i32_r fw17_x_96
                  have rg_47 := i32_r xj_45
                  refine lv_topi (fun x_48 ex_48 => ?_)
                  have zx_48 : x_48.toInt = fw17_x_96.toInt + xj_45.toInt := ?o132
                  case o132 =>
                    rw [ex_48]
                    refine i32_add rfl rfl ?o133 ?o134
                    case o133 => omega
                    case o134 => omega
                  refine hx_puti hx hb hts hC_10 hown hW hT (hx_S.rf (M := [(10, 96)])) (gx.S hM) tt_10 96 ?o135 rfl kw_1239 ⟨rfl, rfl, rfl⟩ rfl (x := x_48) ⟨?o136, ?o137⟩ rfl rfl rfl (List.mem_singleton.mpr rfl) dX10_habits_121 (fun H locs h_49 eh_49 hW hT hs => ?_)
                  case o135 => decide
                  case o136 => omega
                  case o137 => omega
                  replace fx_5 := (hs.o (gx.S hM) trivial rfl).1.trans fx_5
                  replace fq_10 := (hs.o (gx.S hM) trivial rfl).2.trans fq_10
                  replace fq_12 := (hs.o (gx.S hM) trivial rfl).2.trans fq_12
                  replace fq_17 := (hs.o (gx.S hM) trivial rfl).2.trans fq_17
                  replace f_43 := (hs.o (gx.S hM) trivial rfl).1.trans f_43
                  replace ex_11 := ex_11.trans (hs.a gq_10 rfl _).1.symm
                  replace ex_13 := ex_13.trans (hs.a gq_12 rfl _).1.symm
                  replace ex_19 := ex_19.trans (hs.a gq_17 rfl _).1.symm
                  replace ex_38 := ex_38.trans (hs.a gq_17 rfl _).1.symm
                  replace hM := hM.tr (hs.mono ?o138)
                  case o138 => decide
                  replace gq_10 := gq_10.S hs
                  replace gq_12 := gq_12.S hs
                  replace gq_17 := gq_17.S hs
                  have f_50 : h_49.2.1 x 96 = x_48 := ?o139
                  case o139 =>
                    rw [eh_49]
                    exact hx_pi_at _ _ _ _
                  obtain ⟨x_51, ex_51⟩ : ∃ y : Int32, y = iv17_2 + Int32.ofInt (-1) := ⟨_, rfl⟩
                  have rg_52 := i32_r iv17_2
                  have zx_51 : x_51.toInt = iv17_2.toInt + (-1) := ?o140
                  case o140 =>
                    rw [ex_51]
                    refine i32_add rfl ?o141 ?o142 ?o143
                    case o141 => decide
                    case o142 => omega
                    case o143 => omega
                  refine lv_iinc (v := x_51) (lv' := [(2, .int x_51), (3, .int x_11), (0, .ref x), (1, .int i1)]) hx hb dX10_habits_124 hl (k := 1) rfl ex_51.symm ?o144 rfl (fun ls hl => ?_)
                  case o144 => decide
                  refine lv_goto (tgt := 17) hx hb dX10_habits_127 ?o145 ?_
                  case o145 => decide
                  refine ih17 x_51 x_41 x_48 _ _ hL1 h_49 ?o146 ?o147 ?o148 ?o149 ?o150 ?o151 ?o152 ls ?o153 hW hT hM f_43 f_50 fx_5  (lv_sub hl [0, 2, 3] rfl)
                  case o146 => omega
                  case o147 => omega
                  case o148 => omega
                  case o149 => omega
                  case o150 => omega
                  case o151 => omega
                  case o152 => omega
                  case o153 => omega
                refine hb_icmp_ne (zx := x_13.toInt) (zy := 5) (tgt := 119) hx hb rfl ?o154 dX10_habits_112 ?o155 (fun c_53 => ?_) (fun c_53 => ?_)
                case o154 => decide
                case o155 => decide
                · skip
                  refine lv_iconst (v := 0) hx hb dX10_habits_119 ?o156 ?_
                  case o156 => decide
                  refine jn_120 (0 : Int32) ls ?o157 ?o158 hl
                  case o157 => decide
                  case o158 => decide
                · skip
                  refine lv_iconst (v := 1) hx hb dX10_habits_115 ?o159 ?_
                  case o159 => decide
                  refine lv_goto (tgt := 120) hx hb dX10_habits_116 ?o160 ?_
                  case o160 => decide
                  refine jn_120 (1 : Int32) ls ?o161 ?o162 hl
                  case o161 => decide
                  case o162 => decide
              · skip
                refine lv_aload_n hx hb dX10_habits_73 rfl (lv_at hl 2 rfl) ?_
                refine hk_getr hx hb hts hC_10 hown hW (gx.S hM) tt_10 52 ?o163 rfl kw_1195 ⟨rfl, rfl, rfl⟩ fq_17 dX10_habits_74 ?_
                case o163 => decide
                refine lv_iconst (v := 3) hx hb dX10_habits_77 ?o164 ?_
                case o164 => decide
                refine lv_iload_n hx hb dX10_habits_78 rfl (lv_at hl 0 rfl) ?_
                refine lv_imul hx hb dX10_habits_79 ?_
                refine lv_topi (fun x_54 ex_54 => ?_)
                have zx_54 : x_54.toInt = 3 * x_11.toInt := ?o165
                case o165 =>
                  rw [ex_54]
                  refine i32_mul ?o166 rfl rfl ?o167 ?o168
                  case o166 => decide
                  case o167 => omega
                  case o168 => omega
                refine lv_iconst (v := 2) hx hb dX10_habits_80 ?o169 ?_
                case o169 => decide
                refine lv_iadd hx hb dX10_habits_81 ?_
                have rg_55 := i32_r x_54
                refine lv_topi (fun x_56 ex_56 => ?_)
                have zx_56 : x_56.toInt = x_54.toInt + 2 := ?o170
                case o170 =>
                  rw [ex_56]
                  refine i32_add rfl ?o171 ?o172 ?o173
                  case o171 => decide
                  case o172 => omega
                  case o173 => omega
                refine hx_iald hx hb hW hT gq_17 tt_87 rfl ⟨?o174, ?o175⟩ dX10_habits_82 (fun x_57 ex_57 lx_57 ux_57 => ?_)
                case o174 => omega
                case o175 => omega
                refine lv_iload_n hx hb dX10_habits_83 rfl (lv_at hl 3 rfl) ?_
                refine hb_icmp_eq (zx := x_57.toInt) (zy := i1.toInt) (tgt := 90) hx hb rfl rfl dX10_habits_84 ?o176 (fun c_58 => ?_) (fun c_58 => ?_)
                case o176 => decide
                · skip
                  refine lv_aload_n hx hb dX10_habits_90 rfl (lv_at hl 2 rfl) ?_
                  refine lv_dup hx hb dX10_habits_91 rfl ?_
                  refine hk_geti hx hb hts hC_10 hown hW (gx.S hM) tt_10 95 ?o177 rfl kw_1238 ⟨rfl, rfl, rfl⟩ ffw17_x_95 dX10_habits_92 ?_
                  case o177 => decide
                  refine lv_iconst (v := 1) hx hb dX10_habits_95 ?o178 ?_
                  case o178 => decide
                  refine lv_iadd hx hb dX10_habits_96 ?_
                  have rg_59 := i32_r fw17_x_95
                  refine lv_topi (fun x_60 ex_60 => ?_)
                  have zx_60 : x_60.toInt = fw17_x_95.toInt + 1 := ?o179
                  case o179 =>
                    rw [ex_60]
                    refine i32_add rfl ?o180 ?o181 ?o182
                    case o180 => decide
                    case o181 => omega
                    case o182 => omega
                  refine hx_puti hx hb hts hC_10 hown hW hT (hx_S.rf (M := [(10, 95)])) (gx.S hM) tt_10 95 ?o183 rfl kw_1238 ⟨rfl, rfl, rfl⟩ rfl (x := x_60) ⟨?o184, ?o185⟩ rfl rfl rfl (List.mem_singleton.mpr rfl) dX10_habits_97 (fun H locs h_61 eh_61 hW hT hs => ?_)
                  case o183 => decide
                  case o184 => omega
                  case o185 => omega
                  replace fx_5 := (hs.o (gx.S hM) trivial rfl).1.trans fx_5
                  replace ffw17_x_96 := (hs.o (gx.S hM) trivial rfl).1.trans ffw17_x_96
                  replace fq_10 := (hs.o (gx.S hM) trivial rfl).2.trans fq_10
                  replace fq_12 := (hs.o (gx.S hM) trivial rfl).2.trans fq_12
                  replace fq_17 := (hs.o (gx.S hM) trivial rfl).2.trans fq_17
                  replace ex_11 := ex_11.trans (hs.a gq_10 rfl _).1.symm
                  replace ex_13 := ex_13.trans (hs.a gq_12 rfl _).1.symm
                  replace ex_19 := ex_19.trans (hs.a gq_17 rfl _).1.symm
                  replace ex_38 := ex_38.trans (hs.a gq_17 rfl _).1.symm
                  replace ex_57 := ex_57.trans (hs.a gq_17 rfl _).1.symm
                  replace hM := hM.tr (hs.mono ?o186)
                  case o186 => decide
                  replace gq_10 := gq_10.S hs
                  replace gq_12 := gq_12.S hs
                  replace gq_17 := gq_17.S hs
                  have f_62 : h_61.2.1 x 95 = x_60 := ?o187
                  case o187 =>
                    rw [eh_61]
                    exact hx_pi_at _ _ _ _
                  refine lv_aload_n hx hb dX10_habits_100 rfl (lv_at hl 2 rfl) ?_
                  refine lv_dup hx hb dX10_habits_101 rfl ?_
                  refine hk_geti hx hb hts hC_10 hown hW (gx.S hM) tt_10 96 ?o188 rfl kw_1239 ⟨rfl, rfl, rfl⟩ ffw17_x_96 dX10_habits_102 ?_
                  case o188 => decide
                  refine lv_aload_n hx hb dX10_habits_105 rfl (lv_at hl 2 rfl) ?_
                  refine hk_getr hx hb hts hC_10 hown hW (gx.S hM) tt_10 51 ?o189 rfl kw_1194 ⟨rfl, rfl, rfl⟩ fq_12 dX10_habits_106 ?_
                  case o189 => decide
                  refine lv_iload_n hx hb dX10_habits_109 rfl (lv_at hl 0 rfl) ?_
                  refine hx_iald hx hb hW hT gq_12 tt_86 rfl ⟨?o190, ?o191⟩ dX10_habits_110 (fun x_63 ex_63 lx_63 ux_63 => ?_)
                  case o190 => omega
                  case o191 => omega
                  obtain rfl : x_13 = x_63 := ex_13.trans ex_63.symm
                  refine lv_iconst (v := 5) hx hb dX10_habits_111 ?o192 ?_
                  case o192 => decide
                  have jn_120 : ∀ (xj_64 : Int32) (ls : Array Slot), 0 ≤ xj_64.toInt → xj_64.toInt ≤ 1 → lv_has ls 4 [(3, .int x_11), (2, .int iv17_2), (0, .ref x), (1, .int i1)] → W p l e ({ frames := 0, cells := 0, slots := 0, locals := 0 }) s m ([.ref x, .int i1] : List Value).toArray below meth c H locs 0 0 (MQ below (va_Qv (fun (u : List Nat × hx_h) => (∃ (hm1 : Int32) (hp1 : Int32), u.2.2.1 x 95 = hm1 ∧ u.2.2.1 x 96 = hp1 ∧ (hp1.toInt ≤ hm1.toInt)) ∧ hx_T T_tb u.1 u.2 ∧ hx_S T_tb [(10, 95), (10, 96)] L h u.1 u.2) (hx_E T_tb (P_ty dA) (dC, dI) vwCl (hx_A L sz)) (hx_A L sz)) ([.ref x, .int i1] : List Value).toArray s 0 0 (hx_A L sz)) (F0 m 120 ls [.int xj_64, .int fw17_x_96, .ref x]) := by
                    intro xj_64 ls blxj_64 buxj_64 hl
                    refine lv_iadd hx hb dX10_habits_120 ?_
                    have rg_65 := i32_r fw17_x_96
                    have rg_66 := i32_r xj_64
                    refine lv_topi (fun x_67 ex_67 => ?_)
                    have zx_67 : x_67.toInt = fw17_x_96.toInt + xj_64.toInt := ?o193
                    case o193 =>
                      rw [ex_67]
                      refine i32_add rfl rfl ?o194 ?o195
                      case o194 => omega
                      case o195 => omega
                    refine hx_puti hx hb hts hC_10 hown hW hT (hx_S.rf (M := [(10, 96)])) (gx.S hM) tt_10 96 ?o196 rfl kw_1239 ⟨rfl, rfl, rfl⟩ rfl (x := x_67) ⟨?o197, ?o198⟩ rfl rfl rfl (List.mem_singleton.mpr rfl) dX10_habits_121 (fun H locs h_68 eh_68 hW hT hs => ?_)
                    case o196 => decide
                    case o197 => omega
                    case o198 => omega
                    replace fx_5 := (hs.o (gx.S hM) trivial rfl).1.trans fx_5
                    replace fq_10 := (hs.o (gx.S hM) trivial rfl).2.trans fq_10
                    replace fq_12 := (hs.o (gx.S hM) trivial rfl).2.trans fq_12
                    replace fq_17 := (hs.o (gx.S hM) trivial rfl).2.trans fq_17
                    replace f_62 := (hs.o (gx.S hM) trivial rfl).1.trans f_62
                    replace ex_11 := ex_11.trans (hs.a gq_10 rfl _).1.symm
                    replace ex_13 := ex_13.trans (hs.a gq_12 rfl _).1.symm
                    replace ex_19 := ex_19.trans (hs.a gq_17 rfl _).1.symm
                    replace ex_38 := ex_38.trans (hs.a gq_17 rfl _).1.symm
                    replace ex_57 := ex_57.trans (hs.a gq_17 rfl _).1.symm
                    replace hM := hM.tr (hs.mono ?o199)
                    case o199 => decide
                    replace gq_10 := gq_10.S hs
                    replace gq_12 := gq_12.S hs
                    replace gq_17 := gq_17.S hs
                    have f_69 : h_68.2.1 x 96 = x_67 := ?o200
                    case o200 =>
                      rw [eh_68]
                      exact hx_pi_at _ _ _ _
                    obtain ⟨x_70, ex_70⟩ : ∃ y : Int32, y = iv17_2 + Int32.ofInt (-1) := ⟨_, rfl⟩
                    have rg_71 := i32_r iv17_2
                    have zx_70 : x_70.toInt = iv17_2.toInt + (-1) := ?o201
                    case o201 =>
                      rw [ex_70]
                      refine i32_add rfl ?o202 ?o203 ?o204
                      case o202 => decide
                      case o203 => omega
                      case o204 => omega
                    refine lv_iinc (v := x_70) (lv' := [(2, .int x_70), (3, .int x_11), (0, .ref x), (1, .int i1)]) hx hb dX10_habits_124 hl (k := 1) rfl ex_70.symm ?o205 rfl (fun ls hl => ?_)
                    case o205 => decide
                    refine lv_goto (tgt := 17) hx hb dX10_habits_127 ?o206 ?_
                    case o206 => decide
                    refine ih17 x_70 x_60 x_67 _ _ hL1 h_68 ?o207 ?o208 ?o209 ?o210 ?o211 ?o212 ?o213 ls ?o214 hW hT hM f_62 f_69 fx_5  (lv_sub hl [0, 2, 3] rfl)
                    case o207 => omega
                    case o208 => omega
                    case o209 => omega
                    case o210 => omega
                    case o211 => omega
                    case o212 => omega
                    case o213 => omega
                    case o214 => omega
                  refine hb_icmp_ne (zx := x_13.toInt) (zy := 5) (tgt := 119) hx hb rfl ?o215 dX10_habits_112 ?o216 (fun c_72 => ?_) (fun c_72 => ?_)
                  case o215 => decide
                  case o216 => decide
                  · skip
                    refine lv_iconst (v := 0) hx hb dX10_habits_119 ?o217 ?_
                    case o217 => decide
                    refine jn_120 (0 : Int32) ls ?o218 ?o219 hl
                    case o218 => decide
                    case o219 => decide
                  · skip
                    refine lv_iconst (v := 1) hx hb dX10_habits_115 ?o220 ?_
                    case o220 => decide
                    refine lv_goto (tgt := 120) hx hb dX10_habits_116 ?o221 ?_
                    case o221 => decide
                    refine jn_120 (1 : Int32) ls ?o222 ?o223 hl
                    case o222 => decide
                    case o223 => decide
                · skip
                  refine lv_goto (tgt := 124) hx hb dX10_habits_87 ?o224 ?_
                  case o224 => decide
                  obtain ⟨x_73, ex_73⟩ : ∃ y : Int32, y = iv17_2 + Int32.ofInt (-1) := ⟨_, rfl⟩
                  have rg_74 := i32_r iv17_2
                  have zx_73 : x_73.toInt = iv17_2.toInt + (-1) := ?o225
                  case o225 =>
                    rw [ex_73]
                    refine i32_add rfl ?o226 ?o227 ?o228
                    case o226 => decide
                    case o227 => omega
                    case o228 => omega
                  refine lv_iinc (v := x_73) (lv' := [(2, .int x_73), (3, .int x_11), (0, .ref x), (1, .int i1)]) hx hb dX10_habits_124 hl (k := 1) rfl ex_73.symm ?o229 rfl (fun ls hl => ?_)
                  case o229 => decide
                  refine lv_goto (tgt := 17) hx hb dX10_habits_127 ?o230 ?_
                  case o230 => decide
                  refine ih17 x_73 fw17_x_95 fw17_x_96 _ _ hL1 hl1 ?o231 ?o232 ?o233 ?o234 ?o235 ?o236 ?o237 ls ?o238 hW hT hM ffw17_x_95 ffw17_x_96 fx_5  (lv_sub hl [0, 2, 3] rfl)
                  case o231 => omega
                  case o232 => omega
                  case o233 => omega
                  case o234 => omega
                  case o235 => omega
                  case o236 => omega
                  case o237 => omega
                  case o238 => omega
  have zk_0 : (0 : Int32).toInt = 0 := ?o239
  case o239 => decide
  have zk_0 : (0 : Int32).toInt = 0 := ?o240
  case o240 => decide
  refine loop17 101 x_7 (0 : Int32) (0 : Int32) _ _ L h_3 ?o241 ?o242 ?o243 ?o244 ?o245 ?o246 ?o247 ls ?o248 hW hT hM f_2 f_4 fx_5  hl
  case o241 => omega
  case o242 => omega
  case o243 => decide
  case o244 => decide
  case o245 => decide
  case o246 => decide
  case o247 => omega
  case o248 => omega

def wNX10_isRare : Nat := 25578442505570897123977815411170300648794224743027033114158072888680714512037079970763970032911444494184356829388680044408410709521747243048269508620331049794249026173258125505240420114048750663168591520572478001664657528119153704365429810389671538431235984225487632238575114978829614595
theorem wX10_isRare_c : hz_cd cX10_isRare wNX10_isRare 119 := ⟨by decide +kernel, by decide +kernel⟩
theorem dX10_isRare_0 : decode cX10_isRare 0 = .ok (.iconst 0, 1) := dw_3 wX10_isRare_c rfl
theorem dX10_isRare_1 : decode cX10_isRare 1 = .ok (.istore_n 3, 1) := dw_62 wX10_isRare_c rfl
theorem dX10_isRare_2 : decode cX10_isRare 2 = .ok (.iload_n 3, 1) := dw_29 wX10_isRare_c rfl
theorem dX10_isRare_3 : decode cX10_isRare 3 = .ok (.iload_n 1, 1) := dw_27 wX10_isRare_c rfl
theorem dX10_isRare_4 : decode cX10_isRare 4 = .ok (.if_icmp .gt 24, 3) := dw_163 wX10_isRare_c 0 24 rfl rfl rfl
theorem dX10_isRare_7 : decode cX10_isRare 7 = .ok (.aload_n 0, 1) := dw_42 wX10_isRare_c rfl
theorem dX10_isRare_8 : decode cX10_isRare 8 = .ok (.getfield 210, 3) := dw_180 wX10_isRare_c 0 210 rfl rfl
theorem dX10_isRare_11 : decode cX10_isRare 11 = .ok (.iload_n 3, 1) := dw_29 wX10_isRare_c rfl
theorem dX10_isRare_12 : decode cX10_isRare 12 = .ok (.iload_n 3, 1) := dw_29 wX10_isRare_c rfl
theorem dX10_isRare_13 : decode cX10_isRare 13 = .ok (.ifCond .ne 7, 3) := dw_154 wX10_isRare_c 0 7 rfl rfl rfl
theorem dX10_isRare_16 : decode cX10_isRare 16 = .ok (.lconst 1, 1) := dw_10 wX10_isRare_c rfl
theorem dX10_isRare_17 : decode cX10_isRare 17 = .ok (.goto 4, 3) := dw_167 wX10_isRare_c 0 4 rfl rfl rfl
theorem dX10_isRare_20 : decode cX10_isRare 20 = .ok (.lconst 0, 1) := dw_9 wX10_isRare_c rfl
theorem dX10_isRare_21 : decode cX10_isRare 21 = .ok (.lastore, 1) := dw_80 wX10_isRare_c rfl
theorem dX10_isRare_22 : decode cX10_isRare 22 = .ok (.iinc 3 1, 3) := dw_132 wX10_isRare_c 3 1 rfl rfl rfl
theorem dX10_isRare_25 : decode cX10_isRare 25 = .ok (.goto (-23), 3) := dn_167 wX10_isRare_c 255 233 rfl (by decide)
theorem dX10_isRare_28 : decode cX10_isRare 28 = .ok (.iconst 1, 1) := dw_4 wX10_isRare_c rfl
theorem dX10_isRare_29 : decode cX10_isRare 29 = .ok (.istore_n 3, 1) := dw_62 wX10_isRare_c rfl
theorem dX10_isRare_30 : decode cX10_isRare 30 = .ok (.iload_n 3, 1) := dw_29 wX10_isRare_c rfl
theorem dX10_isRare_31 : decode cX10_isRare 31 = .ok (.iload_n 1, 1) := dw_27 wX10_isRare_c rfl
theorem dX10_isRare_32 : decode cX10_isRare 32 = .ok (.if_icmp .gt 42, 3) := dw_163 wX10_isRare_c 0 42 rfl rfl rfl
theorem dX10_isRare_35 : decode cX10_isRare 35 = .ok (.iload_n 3, 1) := dw_29 wX10_isRare_c rfl
theorem dX10_isRare_36 : decode cX10_isRare 36 = .ok (.istore 4, 2) := dw_54 wX10_isRare_c 4 rfl
theorem dX10_isRare_38 : decode cX10_isRare 38 = .ok (.iload 4, 2) := dw_21 wX10_isRare_c 4 rfl
theorem dX10_isRare_40 : decode cX10_isRare 40 = .ok (.ifCond .le 28, 3) := dw_158 wX10_isRare_c 0 28 rfl rfl rfl
theorem dX10_isRare_43 : decode cX10_isRare 43 = .ok (.aload_n 0, 1) := dw_42 wX10_isRare_c rfl
theorem dX10_isRare_44 : decode cX10_isRare 44 = .ok (.getfield 210, 3) := dw_180 wX10_isRare_c 0 210 rfl rfl
theorem dX10_isRare_47 : decode cX10_isRare 47 = .ok (.iload 4, 2) := dw_21 wX10_isRare_c 4 rfl
theorem dX10_isRare_49 : decode cX10_isRare 49 = .ok (.dup2, 1) := dw_92 wX10_isRare_c rfl
theorem dX10_isRare_50 : decode cX10_isRare 50 = .ok (.laload, 1) := dw_47 wX10_isRare_c rfl
theorem dX10_isRare_51 : decode cX10_isRare 51 = .ok (.aload_n 0, 1) := dw_42 wX10_isRare_c rfl
theorem dX10_isRare_52 : decode cX10_isRare 52 = .ok (.getfield 210, 3) := dw_180 wX10_isRare_c 0 210 rfl rfl
theorem dX10_isRare_55 : decode cX10_isRare 55 = .ok (.iload 4, 2) := dw_21 wX10_isRare_c 4 rfl
theorem dX10_isRare_57 : decode cX10_isRare 57 = .ok (.iconst 1, 1) := dw_4 wX10_isRare_c rfl
theorem dX10_isRare_58 : decode cX10_isRare 58 = .ok (.isub, 1) := dw_100 wX10_isRare_c rfl
theorem dX10_isRare_59 : decode cX10_isRare 59 = .ok (.laload, 1) := dw_47 wX10_isRare_c rfl
theorem dX10_isRare_60 : decode cX10_isRare 60 = .ok (.ladd, 1) := dw_97 wX10_isRare_c rfl
theorem dX10_isRare_61 : decode cX10_isRare 61 = .ok (.lastore, 1) := dw_80 wX10_isRare_c rfl
theorem dX10_isRare_62 : decode cX10_isRare 62 = .ok (.iinc 4 (-1), 3) := dn_132 wX10_isRare_c 4 255 rfl (by decide)
theorem dX10_isRare_65 : decode cX10_isRare 65 = .ok (.goto (-27), 3) := dn_167 wX10_isRare_c 255 229 rfl (by decide)
theorem dX10_isRare_68 : decode cX10_isRare 68 = .ok (.iinc 3 1, 3) := dw_132 wX10_isRare_c 3 1 rfl rfl rfl
theorem dX10_isRare_71 : decode cX10_isRare 71 = .ok (.goto (-41), 3) := dn_167 wX10_isRare_c 255 215 rfl (by decide)
theorem dX10_isRare_74 : decode cX10_isRare 74 = .ok (.lconst 0, 1) := dw_9 wX10_isRare_c rfl
theorem dX10_isRare_75 : decode cX10_isRare 75 = .ok (.lstore_n 3, 1) := dw_66 wX10_isRare_c rfl
theorem dX10_isRare_76 : decode cX10_isRare 76 = .ok (.iload_n 2, 1) := dw_28 wX10_isRare_c rfl
theorem dX10_isRare_77 : decode cX10_isRare 77 = .ok (.istore 5, 2) := dw_54 wX10_isRare_c 5 rfl
theorem dX10_isRare_79 : decode cX10_isRare 79 = .ok (.iload 5, 2) := dw_21 wX10_isRare_c 5 rfl
theorem dX10_isRare_81 : decode cX10_isRare 81 = .ok (.iload_n 1, 1) := dw_27 wX10_isRare_c rfl
theorem dX10_isRare_82 : decode cX10_isRare 82 = .ok (.if_icmp .gt 19, 3) := dw_163 wX10_isRare_c 0 19 rfl rfl rfl
theorem dX10_isRare_85 : decode cX10_isRare 85 = .ok (.lload_n 3, 1) := dw_33 wX10_isRare_c rfl
theorem dX10_isRare_86 : decode cX10_isRare 86 = .ok (.aload_n 0, 1) := dw_42 wX10_isRare_c rfl
theorem dX10_isRare_87 : decode cX10_isRare 87 = .ok (.getfield 210, 3) := dw_180 wX10_isRare_c 0 210 rfl rfl
theorem dX10_isRare_90 : decode cX10_isRare 90 = .ok (.iload 5, 2) := dw_21 wX10_isRare_c 5 rfl
theorem dX10_isRare_92 : decode cX10_isRare 92 = .ok (.laload, 1) := dw_47 wX10_isRare_c rfl
theorem dX10_isRare_93 : decode cX10_isRare 93 = .ok (.ladd, 1) := dw_97 wX10_isRare_c rfl
theorem dX10_isRare_94 : decode cX10_isRare 94 = .ok (.lstore_n 3, 1) := dw_66 wX10_isRare_c rfl
theorem dX10_isRare_95 : decode cX10_isRare 95 = .ok (.iinc 5 1, 3) := dw_132 wX10_isRare_c 5 1 rfl rfl rfl
theorem dX10_isRare_98 : decode cX10_isRare 98 = .ok (.goto (-19), 3) := dn_167 wX10_isRare_c 255 237 rfl (by decide)
theorem dX10_isRare_101 : decode cX10_isRare 101 = .ok (.lload_n 3, 1) := dw_33 wX10_isRare_c rfl
theorem dX10_isRare_102 : decode cX10_isRare 102 = .ok (.lconst 1, 1) := dw_10 wX10_isRare_c rfl
theorem dX10_isRare_103 : decode cX10_isRare 103 = .ok (.iload_n 1, 1) := dw_27 wX10_isRare_c rfl
theorem dX10_isRare_104 : decode cX10_isRare 104 = .ok (.lshl, 1) := dw_121 wX10_isRare_c rfl
theorem dX10_isRare_105 : decode cX10_isRare 105 = .ok (.ldc2_w 487, 3) := dw_20 wX10_isRare_c 1 231 rfl rfl
theorem dX10_isRare_108 : decode cX10_isRare 108 = .ok (.ldiv, 1) := dw_109 wX10_isRare_c rfl
theorem dX10_isRare_109 : decode cX10_isRare 109 = .ok (.lcmp, 1) := dw_148 wX10_isRare_c rfl
theorem dX10_isRare_110 : decode cX10_isRare 110 = .ok (.ifCond .gt 7, 3) := dw_157 wX10_isRare_c 0 7 rfl rfl rfl
theorem dX10_isRare_113 : decode cX10_isRare 113 = .ok (.iconst 1, 1) := dw_4 wX10_isRare_c rfl
theorem dX10_isRare_114 : decode cX10_isRare 114 = .ok (.goto 4, 3) := dw_167 wX10_isRare_c 0 4 rfl rfl rfl
theorem dX10_isRare_117 : decode cX10_isRare 117 = .ok (.iconst 0, 1) := dw_3 wX10_isRare_c rfl
theorem dX10_isRare_118 : decode cX10_isRare 118 = .ok (.ireturn, 1) := dw_172 wX10_isRare_c rfl
set_option maxHeartbeats 4000000 in
set_option maxRecDepth 100000 in
theorem t_X10_isRare (l : Launch) (dC : Nat → ClassId) (dI : Nat → Nat → Nat) (dA : Nat → ClassId) (L : List Nat) (h : hx_h) (sz : Nat) (x : Nat) (i1 : Int32) (i2 : Int32) (hT : hx_T T_tb L h) (gx : hx_g L h x 10) (hi1 : 0 ≤ i1.toInt ∧ i1.toInt ≤ 60) (hi2 : 0 ≤ i2.toInt ∧ i2.toInt ≤ 60) : Met l yX10_isRare (Cond.code yX10_isRare cX10_isRare 6 (some .boolean) :: hx_all) ({ frames := 0, cells := 0, slots := 0, locals := 0 }) (va_Pc [.ref x, .int i1, .int i2] (hx_B T_tb (P_ty dA) (dC, dI) vwCl L h sz)) (va_Qi (fun (r : Int32) (u : List Nat × hx_h) => (r.toInt = 0 ∨ r.toInt = 1) ∧ hx_T T_tb u.1 u.2 ∧ hx_S T_tb [(115, 0)] L h u.1 u.2) (hx_E T_tb (P_ty dA) (dC, dI) vwCl (hx_A L sz)) (hx_A L sz)) 0 0 (hx_A L sz) := by
  refine hx_met (lv := [(0, .ref x), (1, .int i1), (2, .int i2)]) (by decide +kernel) rfl (Nat.le_of_ble_eq_true rfl) rfl ?_
  intro p e s m below meth c hx hb hml hr hlk hts0 hown hin hsz hW ls hl
  have hts : ∀ w ∈ hx_all, w.before _ s = true := fun w hw => hts0 w (List.mem_cons_of_mem _ hw)
  have hown : s.vm.findClass "SmallCourtModel" = some m.cls := hown
  have hM : hx_S T_tb [(115, 0)] L h L h := hx_S.rf
  refine lv_iconst (v := 0) hx hb dX10_isRare_0 ?o0 ?_
  case o0 => decide
  refine lv_istore_n (lv' := [(3, .int (0 : Int32)), (0, .ref x), (1, .int i1), (2, .int i2)]) hx hb dX10_isRare_1 rfl hl ?o1 rfl (fun ls hl => ?_)
  case o1 => decide
  have loop2 : ∀ (n2 : Nat) (iv2_3 : Int32) (H : Heap) (locs : List Loc) (hL1 : List Nat) (hl1 : hx_h), 0 ≤ iv2_3.toInt → iv2_3.toInt ≤ 61 → ∀ (ls : Array Slot), 61 - iv2_3.toInt < (n2 : Int) → hx_W T_tb (P_ty dA) (dC, dI) vwCl (hx_A L sz) s.heap hL1 hl1 s H locs → hx_T T_tb hL1 hl1 → hx_S T_tb [(115, 0)] L h hL1 hl1 → lv_has ls 6 [(3, .int iv2_3), (0, .ref x), (1, .int i1), (2, .int i2)] → W p l e ({ frames := 0, cells := 0, slots := 0, locals := 0 }) s m ([.ref x, .int i1, .int i2] : List Value).toArray below meth c H locs 0 0 (MQ below (va_Qi (fun (r : Int32) (u : List Nat × hx_h) => (r.toInt = 0 ∨ r.toInt = 1) ∧ hx_T T_tb u.1 u.2 ∧ hx_S T_tb [(115, 0)] L h u.1 u.2) (hx_E T_tb (P_ty dA) (dC, dI) vwCl (hx_A L sz)) (hx_A L sz)) ([.ref x, .int i1, .int i2] : List Value).toArray s 0 0 (hx_A L sz)) (F0 m 2 ls []) := by
    intro n2
    induction n2 with
    | zero => intro iv2_3 H locs hL1 hl1 bliv2_3 buiv2_3  ls hn2; exfalso; omega
    | succ n2 ih2 =>
      intro iv2_3 H locs hL1 hl1 bliv2_3 buiv2_3  ls hn2 hW hT hM   hl
      refine lv_iload_n hx hb dX10_isRare_2 rfl (lv_at hl 0 rfl) ?_
      refine lv_iload_n hx hb dX10_isRare_3 rfl (lv_at hl 2 rfl) ?_
      refine hb_icmp_gt (zx := iv2_3.toInt) (zy := i1.toInt) (tgt := 28) hx hb rfl rfl dX10_isRare_4 ?o2 (fun c_1 => ?_) (fun c_1 => ?_)
      case o2 => decide
      · skip
        refine lv_iconst (v := 1) hx hb dX10_isRare_28 ?o3 ?_
        case o3 => decide
        refine lv_istore_n (lv' := [(3, .int (1 : Int32)), (0, .ref x), (1, .int i1), (2, .int i2)]) hx hb dX10_isRare_29 rfl hl ?o4 rfl (fun ls hl => ?_)
        case o4 => decide
        have loop30 : ∀ (n30 : Nat) (iv30_3 : Int32) (H : Heap) (locs : List Loc) (hL1 : List Nat) (hl1 : hx_h), 1 ≤ iv30_3.toInt → iv30_3.toInt ≤ 61 → ∀ (ls : Array Slot), 61 - iv30_3.toInt < (n30 : Int) → hx_W T_tb (P_ty dA) (dC, dI) vwCl (hx_A L sz) s.heap hL1 hl1 s H locs → hx_T T_tb hL1 hl1 → hx_S T_tb [(115, 0)] L h hL1 hl1 → lv_has ls 6 [(3, .int iv30_3), (0, .ref x), (1, .int i1), (2, .int i2)] → W p l e ({ frames := 0, cells := 0, slots := 0, locals := 0 }) s m ([.ref x, .int i1, .int i2] : List Value).toArray below meth c H locs 0 0 (MQ below (va_Qi (fun (r : Int32) (u : List Nat × hx_h) => (r.toInt = 0 ∨ r.toInt = 1) ∧ hx_T T_tb u.1 u.2 ∧ hx_S T_tb [(115, 0)] L h u.1 u.2) (hx_E T_tb (P_ty dA) (dC, dI) vwCl (hx_A L sz)) (hx_A L sz)) ([.ref x, .int i1, .int i2] : List Value).toArray s 0 0 (hx_A L sz)) (F0 m 30 ls []) := by
          intro n30
          induction n30 with
          | zero => intro iv30_3 H locs hL1 hl1 bliv30_3 buiv30_3  ls hn30; exfalso; omega
          | succ n30 ih30 =>
            intro iv30_3 H locs hL1 hl1 bliv30_3 buiv30_3  ls hn30 hW hT hM   hl
            refine lv_iload_n hx hb dX10_isRare_30 rfl (lv_at hl 0 rfl) ?_
            refine lv_iload_n hx hb dX10_isRare_31 rfl (lv_at hl 2 rfl) ?_
            refine hb_icmp_gt (zx := iv30_3.toInt) (zy := i1.toInt) (tgt := 74) hx hb rfl rfl dX10_isRare_32 ?o5 (fun c_2 => ?_) (fun c_2 => ?_)
            case o5 => decide
            · skip
              refine lv_lconst (v := 0) hx hb dX10_isRare_74 ?o6 ?_
              case o6 => decide
              refine lv_lstore_n (lv' := [(3, .long (0 : Int64)), (0, .ref x), (1, .int i1), (2, .int i2)]) hx hb dX10_isRare_75 rfl hl ?o7 rfl (fun ls hl => ?_)
              case o7 => decide
              refine lv_iload_n hx hb dX10_isRare_76 rfl (lv_at hl 3 rfl) ?_
              refine lv_istore (lv' := [(5, .int i2), (3, .long (0 : Int64)), (0, .ref x), (1, .int i1), (2, .int i2)]) hx hb dX10_isRare_77 hl ?o8 rfl (fun ls hl => ?_)
              case o8 => decide
              have loop79 : ∀ (n79 : Nat) (iv79_5 : Int32) (iv79_3 : Int64) (H : Heap) (locs : List Loc) (hL1 : List Nat) (hl1 : hx_h), 0 ≤ iv79_5.toInt → iv79_5.toInt ≤ 61 → ∀ (ls : Array Slot), 61 - iv79_5.toInt < (n79 : Int) → hx_W T_tb (P_ty dA) (dC, dI) vwCl (hx_A L sz) s.heap hL1 hl1 s H locs → hx_T T_tb hL1 hl1 → hx_S T_tb [(115, 0)] L h hL1 hl1 → lv_has ls 6 [(5, .int iv79_5), (3, .long iv79_3), (0, .ref x), (1, .int i1), (2, .int i2)] → W p l e ({ frames := 0, cells := 0, slots := 0, locals := 0 }) s m ([.ref x, .int i1, .int i2] : List Value).toArray below meth c H locs 0 0 (MQ below (va_Qi (fun (r : Int32) (u : List Nat × hx_h) => (r.toInt = 0 ∨ r.toInt = 1) ∧ hx_T T_tb u.1 u.2 ∧ hx_S T_tb [(115, 0)] L h u.1 u.2) (hx_E T_tb (P_ty dA) (dC, dI) vwCl (hx_A L sz)) (hx_A L sz)) ([.ref x, .int i1, .int i2] : List Value).toArray s 0 0 (hx_A L sz)) (F0 m 79 ls []) := by
                intro n79
                induction n79 with
                | zero => intro iv79_5 iv79_3 H locs hL1 hl1 bliv79_5 buiv79_5  ls hn79; exfalso; omega
                | succ n79 ih79 =>
                  intro iv79_5 iv79_3 H locs hL1 hl1 bliv79_5 buiv79_5  ls hn79 hW hT hM   hl
                  refine lv_iload hx hb dX10_isRare_79 (lv_at hl 0 rfl) ?_
                  refine lv_iload_n hx hb dX10_isRare_81 rfl (lv_at hl 3 rfl) ?_
                  refine hb_icmp_gt (zx := iv79_5.toInt) (zy := i1.toInt) (tgt := 101) hx hb rfl rfl dX10_isRare_82 ?o9 (fun c_3 => ?_) (fun c_3 => ?_)
                  case o9 => decide
                  · skip
                    refine lv_lload_n hx hb dX10_isRare_101 rfl (lv_at hl 1 rfl) ?_
                    refine lv_lconst (v := 1) hx hb dX10_isRare_102 ?o10 ?_
                    case o10 => decide
                    refine lv_iload_n hx hb dX10_isRare_103 rfl (lv_at hl 3 rfl) ?_
                    refine lv_lshl hx hb dX10_isRare_104 rfl ?_
                    refine lv_topl (fun x_4 ex_4 => ?_)
                    refine lv_ldc2 (v := 20) hx hb hown (hts _ kw_1745) dX10_isRare_105 ?_
                    refine lv_ldiv hx hb dX10_isRare_108 ?o11 ?_
                    case o11 => decide
                    refine lv_topl (fun x_5 ex_5 => ?_)
                    refine lv_lcmp hx hb dX10_isRare_109 (fun x_6 => ?_)
                    have jn_118 : ∀ (xj_7 : Int32) (ls : Array Slot), 0 ≤ xj_7.toInt → xj_7.toInt ≤ 1 → lv_has ls 6 [(5, .int iv79_5), (3, .long iv79_3), (0, .ref x), (1, .int i1), (2, .int i2)] → W p l e ({ frames := 0, cells := 0, slots := 0, locals := 0 }) s m ([.ref x, .int i1, .int i2] : List Value).toArray below meth c H locs 0 0 (MQ below (va_Qi (fun (r : Int32) (u : List Nat × hx_h) => (r.toInt = 0 ∨ r.toInt = 1) ∧ hx_T T_tb u.1 u.2 ∧ hx_S T_tb [(115, 0)] L h u.1 u.2) (hx_E T_tb (P_ty dA) (dC, dI) vwCl (hx_A L sz)) (hx_A L sz)) ([.ref x, .int i1, .int i2] : List Value).toArray s 0 0 (hx_A L sz)) (F0 m 118 ls [.int xj_7]) := by
                      intro xj_7 ls blxj_7 buxj_7 hl
                      refine hx_retz hx hb hr (hx_nar01 ?o12) hlk hW ⟨?o13, hT, hM⟩ dX10_isRare_118
                      case o12 => omega
                      case o13 => omega
                    refine hb_if_gt (zx := x_6.toInt) (tgt := 117) hx hb rfl dX10_isRare_110 ?o14 (fun c_8 => ?_) (fun c_8 => ?_)
                    case o14 => decide
                    · skip
                      refine lv_iconst (v := 0) hx hb dX10_isRare_117 ?o15 ?_
                      case o15 => decide
                      refine jn_118 (0 : Int32) ls ?o16 ?o17 hl
                      case o16 => decide
                      case o17 => decide
                    · skip
                      refine lv_iconst (v := 1) hx hb dX10_isRare_113 ?o18 ?_
                      case o18 => decide
                      refine lv_goto (tgt := 118) hx hb dX10_isRare_114 ?o19 ?_
                      case o19 => decide
                      refine jn_118 (1 : Int32) ls ?o20 ?o21 hl
                      case o20 => decide
                      case o21 => decide
                  · skip
                    refine lv_lload_n hx hb dX10_isRare_85 rfl (lv_at hl 1 rfl) ?_
                    refine lv_aload_n hx hb dX10_isRare_86 rfl (lv_at hl 2 rfl) ?_
                    refine hx_getn hx hb hts hC_10 hown hW hT (gx.S hM) tt_10 97 ?o22 rfl kw_1240 ⟨rfl, rfl, rfl⟩ dX10_isRare_87 (fun q_9 fq_9 gq_9 => ?_)
                    case o22 => decide
                    refine lv_iload hx hb dX10_isRare_90 (lv_at hl 0 rfl) ?_
                    refine hx_lald hx hb hW gq_9 tt_115 rfl ⟨?o23, ?o24⟩ dX10_isRare_92 (fun x_10 => ?_)
                    case o23 => omega
                    case o24 => omega
                    refine lv_ladd hx hb dX10_isRare_93 ?_
                    refine lv_topl (fun x_11 ex_11 => ?_)
                    refine lv_lstore_n (lv' := [(3, .long x_11), (5, .int iv79_5), (0, .ref x), (1, .int i1), (2, .int i2)]) hx hb dX10_isRare_94 rfl hl ?o25 rfl (fun ls hl => ?_)
                    case o25 => decide
                    obtain ⟨x_12, ex_12⟩ : ∃ y : Int32, y = iv79_5 + Int32.ofInt 1 := ⟨_, rfl⟩
                    have rg_13 := i32_r iv79_5
                    have zx_12 : x_12.toInt = iv79_5.toInt + (1) := ?o26
                    case o26 =>
                      rw [ex_12]
                      refine i32_add rfl ?o27 ?o28 ?o29
                      case o27 => decide
                      case o28 => omega
                      case o29 => omega
                    refine lv_iinc (v := x_12) (lv' := [(5, .int x_12), (3, .long x_11), (0, .ref x), (1, .int i1), (2, .int i2)]) hx hb dX10_isRare_95 hl (k := 1) rfl ex_12.symm ?o30 rfl (fun ls hl => ?_)
                    case o30 => decide
                    refine lv_goto (tgt := 79) hx hb dX10_isRare_98 ?o31 ?_
                    case o31 => decide
                    refine ih79 x_12 x_11 _ _ hL1 hl1 ?o32 ?o33  ls ?o34 hW hT hM   (lv_sub hl [0, 1, 2, 3, 4] rfl)
                    case o32 => omega
                    case o33 => omega
                    case o34 => omega
              refine loop79 62 i2 (0 : Int64) _ _ hL1 hl1 ?o35 ?o36  ls ?o37 hW hT hM   hl
              case o35 => omega
              case o36 => omega
              case o37 => omega
            · skip
              refine lv_iload_n hx hb dX10_isRare_35 rfl (lv_at hl 0 rfl) ?_
              refine lv_istore (lv' := [(4, .int iv30_3), (3, .int iv30_3), (0, .ref x), (1, .int i1), (2, .int i2)]) hx hb dX10_isRare_36 hl ?o38 rfl (fun ls hl => ?_)
              case o38 => decide
              have loop38 : ∀ (n38 : Nat) (iv38_4 : Int32) (H : Heap) (locs : List Loc) (hL1 : List Nat) (hl1 : hx_h), 0 ≤ iv38_4.toInt → iv38_4.toInt ≤ 60 → ∀ (ls : Array Slot), iv38_4.toInt < (n38 : Int) → hx_W T_tb (P_ty dA) (dC, dI) vwCl (hx_A L sz) s.heap hL1 hl1 s H locs → hx_T T_tb hL1 hl1 → hx_S T_tb [(115, 0)] L h hL1 hl1 → lv_has ls 6 [(4, .int iv38_4), (3, .int iv30_3), (0, .ref x), (1, .int i1), (2, .int i2)] → W p l e ({ frames := 0, cells := 0, slots := 0, locals := 0 }) s m ([.ref x, .int i1, .int i2] : List Value).toArray below meth c H locs 0 0 (MQ below (va_Qi (fun (r : Int32) (u : List Nat × hx_h) => (r.toInt = 0 ∨ r.toInt = 1) ∧ hx_T T_tb u.1 u.2 ∧ hx_S T_tb [(115, 0)] L h u.1 u.2) (hx_E T_tb (P_ty dA) (dC, dI) vwCl (hx_A L sz)) (hx_A L sz)) ([.ref x, .int i1, .int i2] : List Value).toArray s 0 0 (hx_A L sz)) (F0 m 38 ls []) := by
                intro n38
                induction n38 with
                | zero => intro iv38_4 H locs hL1 hl1 bliv38_4 buiv38_4  ls hn38; exfalso; omega
                | succ n38 ih38 =>
                  intro iv38_4 H locs hL1 hl1 bliv38_4 buiv38_4  ls hn38 hW hT hM   hl
                  refine lv_iload hx hb dX10_isRare_38 (lv_at hl 0 rfl) ?_
                  refine hb_if_le (zx := iv38_4.toInt) (tgt := 68) hx hb rfl dX10_isRare_40 ?o39 (fun c_14 => ?_) (fun c_14 => ?_)
                  case o39 => decide
                  · skip
                    obtain ⟨x_15, ex_15⟩ : ∃ y : Int32, y = iv30_3 + Int32.ofInt 1 := ⟨_, rfl⟩
                    have rg_16 := i32_r iv30_3
                    have zx_15 : x_15.toInt = iv30_3.toInt + (1) := ?o40
                    case o40 =>
                      rw [ex_15]
                      refine i32_add rfl ?o41 ?o42 ?o43
                      case o41 => decide
                      case o42 => omega
                      case o43 => omega
                    refine lv_iinc (v := x_15) (lv' := [(3, .int x_15), (4, .int iv38_4), (0, .ref x), (1, .int i1), (2, .int i2)]) hx hb dX10_isRare_68 hl (k := 1) rfl ex_15.symm ?o44 rfl (fun ls hl => ?_)
                    case o44 => decide
                    refine lv_goto (tgt := 30) hx hb dX10_isRare_71 ?o45 ?_
                    case o45 => decide
                    refine ih30 x_15 _ _ hL1 hl1 ?o46 ?o47  ls ?o48 hW hT hM   (lv_sub hl [0, 2, 3, 4] rfl)
                    case o46 => omega
                    case o47 => omega
                    case o48 => omega
                  · skip
                    refine lv_aload_n hx hb dX10_isRare_43 rfl (lv_at hl 2 rfl) ?_
                    refine hx_getn hx hb hts hC_10 hown hW hT (gx.S hM) tt_10 97 ?o49 rfl kw_1240 ⟨rfl, rfl, rfl⟩ dX10_isRare_44 (fun q_17 fq_17 gq_17 => ?_)
                    case o49 => decide
                    refine lv_iload hx hb dX10_isRare_47 (lv_at hl 0 rfl) ?_
                    refine lv_dup2_11 hx hb dX10_isRare_49 rfl rfl ?_
                    refine hx_lald hx hb hW gq_17 tt_115 rfl ⟨?o50, ?o51⟩ dX10_isRare_50 (fun x_18 => ?_)
                    case o50 => omega
                    case o51 => omega
                    refine lv_aload_n hx hb dX10_isRare_51 rfl (lv_at hl 2 rfl) ?_
                    refine hk_getr hx hb hts hC_10 hown hW (gx.S hM) tt_10 97 ?o52 rfl kw_1240 ⟨rfl, rfl, rfl⟩ fq_17 dX10_isRare_52 ?_
                    case o52 => decide
                    refine lv_iload hx hb dX10_isRare_55 (lv_at hl 0 rfl) ?_
                    refine lv_iconst (v := 1) hx hb dX10_isRare_57 ?o53 ?_
                    case o53 => decide
                    refine lv_isub hx hb dX10_isRare_58 ?_
                    have rg_19 := i32_r iv38_4
                    refine lv_topi (fun x_20 ex_20 => ?_)
                    have zx_20 : x_20.toInt = iv38_4.toInt - 1 := ?o54
                    case o54 =>
                      rw [ex_20]
                      refine i32_sub rfl ?o55 ?o56 ?o57
                      case o55 => decide
                      case o56 => omega
                      case o57 => omega
                    refine hx_lald hx hb hW gq_17 tt_115 rfl ⟨?o58, ?o59⟩ dX10_isRare_59 (fun x_21 => ?_)
                    case o58 => omega
                    case o59 => omega
                    refine lv_ladd hx hb dX10_isRare_60 ?_
                    refine lv_topl (fun x_22 ex_22 => ?_)
                    refine hx_last hx hb hW hT gq_17 tt_115 rfl ⟨?o60, ?o61⟩ dX10_isRare_61 (fun H locs h_23 hW hT hs => ?_)
                    case o60 => omega
                    case o61 => omega
                    replace fq_17 := (hs.o (gx.S hM) trivial rfl).2.trans fq_17
                    replace hM := hM.tr (hs.mono ?o62)
                    case o62 => decide
                    replace gq_17 := gq_17.S hs
                    obtain ⟨x_24, ex_24⟩ : ∃ y : Int32, y = iv38_4 + Int32.ofInt (-1) := ⟨_, rfl⟩
                    have zx_24 : x_24.toInt = iv38_4.toInt + (-1) := ?o63
                    case o63 =>
                      rw [ex_24]
                      refine i32_add rfl ?o64 ?o65 ?o66
                      case o64 => decide
                      case o65 => omega
                      case o66 => omega
                    refine lv_iinc (v := x_24) (lv' := [(4, .int x_24), (3, .int iv30_3), (0, .ref x), (1, .int i1), (2, .int i2)]) hx hb dX10_isRare_62 hl (k := 0) rfl ex_24.symm ?o67 rfl (fun ls hl => ?_)
                    case o67 => decide
                    refine lv_goto (tgt := 38) hx hb dX10_isRare_65 ?o68 ?_
                    case o68 => decide
                    refine ih38 x_24 _ _ hL1 h_23 ?o69 ?o70  ls ?o71 hW hT hM   (lv_sub hl [0, 1, 2, 3, 4] rfl)
                    case o69 => omega
                    case o70 => omega
                    case o71 => omega
              refine loop38 61 iv30_3 _ _ hL1 hl1 ?o72 ?o73  ls ?o74 hW hT hM   hl
              case o72 => omega
              case o73 => omega
              case o74 => omega
        have zk_1 : (1 : Int32).toInt = 1 := ?o75
        case o75 => decide
        refine loop30 62 (1 : Int32) _ _ hL1 hl1 ?o76 ?o77  ls ?o78 hW hT hM   hl
        case o76 => decide
        case o77 => decide
        case o78 => omega
      · skip
        refine lv_aload_n hx hb dX10_isRare_7 rfl (lv_at hl 1 rfl) ?_
        refine hx_getn hx hb hts hC_10 hown hW hT (gx.S hM) tt_10 97 ?o79 rfl kw_1240 ⟨rfl, rfl, rfl⟩ dX10_isRare_8 (fun q_25 fq_25 gq_25 => ?_)
        case o79 => decide
        refine lv_iload_n hx hb dX10_isRare_11 rfl (lv_at hl 0 rfl) ?_
        refine lv_iload_n hx hb dX10_isRare_12 rfl (lv_at hl 0 rfl) ?_
        refine hb_if_ne (zx := iv2_3.toInt) (tgt := 20) hx hb rfl dX10_isRare_13 ?o80 (fun c_26 => ?_) (fun c_26 => ?_)
        case o80 => decide
        · skip
          refine lv_lconst (v := 0) hx hb dX10_isRare_20 ?o81 ?_
          case o81 => decide
          refine hx_last hx hb hW hT gq_25 tt_115 rfl ⟨?o82, ?o83⟩ dX10_isRare_21 (fun H locs h_27 hW hT hs => ?_)
          case o82 => omega
          case o83 => omega
          replace fq_25 := (hs.o (gx.S hM) trivial rfl).2.trans fq_25
          replace hM := hM.tr (hs.mono ?o84)
          case o84 => decide
          replace gq_25 := gq_25.S hs
          obtain ⟨x_28, ex_28⟩ : ∃ y : Int32, y = iv2_3 + Int32.ofInt 1 := ⟨_, rfl⟩
          have rg_29 := i32_r iv2_3
          have zx_28 : x_28.toInt = iv2_3.toInt + (1) := ?o85
          case o85 =>
            rw [ex_28]
            refine i32_add rfl ?o86 ?o87 ?o88
            case o86 => decide
            case o87 => omega
            case o88 => omega
          refine lv_iinc (v := x_28) (lv' := [(3, .int x_28), (0, .ref x), (1, .int i1), (2, .int i2)]) hx hb dX10_isRare_22 hl (k := 0) rfl ex_28.symm ?o89 rfl (fun ls hl => ?_)
          case o89 => decide
          refine lv_goto (tgt := 2) hx hb dX10_isRare_25 ?o90 ?_
          case o90 => decide
          refine ih2 x_28 _ _ hL1 h_27 ?o91 ?o92  ls ?o93 hW hT hM   (lv_sub hl [0, 1, 2, 3] rfl)
          case o91 => omega
          case o92 => omega
          case o93 => omega
        · skip
          refine lv_lconst (v := 1) hx hb dX10_isRare_16 ?o94 ?_
          case o94 => decide
          refine lv_goto (tgt := 21) hx hb dX10_isRare_17 ?o95 ?_
          case o95 => decide
          refine hx_last hx hb hW hT gq_25 tt_115 rfl ⟨?o96, ?o97⟩ dX10_isRare_21 (fun H locs h_30 hW hT hs => ?_)
          case o96 => omega
          case o97 => omega
          replace fq_25 := (hs.o (gx.S hM) trivial rfl).2.trans fq_25
          replace hM := hM.tr (hs.mono ?o98)
          case o98 => decide
          replace gq_25 := gq_25.S hs
          obtain ⟨x_31, ex_31⟩ : ∃ y : Int32, y = iv2_3 + Int32.ofInt 1 := ⟨_, rfl⟩
          have rg_32 := i32_r iv2_3
          have zx_31 : x_31.toInt = iv2_3.toInt + (1) := ?o99
          case o99 =>
            rw [ex_31]
            refine i32_add rfl ?o100 ?o101 ?o102
            case o100 => decide
            case o101 => omega
            case o102 => omega
          refine lv_iinc (v := x_31) (lv' := [(3, .int x_31), (0, .ref x), (1, .int i1), (2, .int i2)]) hx hb dX10_isRare_22 hl (k := 0) rfl ex_31.symm ?o103 rfl (fun ls hl => ?_)
          case o103 => decide
          refine lv_goto (tgt := 2) hx hb dX10_isRare_25 ?o104 ?_
          case o104 => decide
          refine ih2 x_31 _ _ hL1 h_30 ?o105 ?o106  ls ?o107 hW hT hM   (lv_sub hl [0, 1, 2, 3] rfl)
          case o105 => omega
          case o106 => omega
          case o107 => omega
  have zk_0 : (0 : Int32).toInt = 0 := ?o108
  case o108 => decide
  refine loop2 62 (0 : Int32) _ _ L h ?o109 ?o110  ls ?o111 hW hT hM   hl
  case o109 => decide
  case o110 => decide
  case o111 => omega

def wNX10_habit : Nat := 862889612714467611211662448057729598008664679806327410115954177192829253876197753964845933416581367354304119107169789136599344536708605943016410708680707416721057556836538670472507118585165201768688899201834
theorem wX10_habit_c : hz_cd cX10_habit wNX10_habit 86 := ⟨by decide +kernel, by decide +kernel⟩
theorem dX10_habit_0 : decode cX10_habit 0 = .ok (.aload_n 0, 1) := dw_42 wX10_habit_c rfl
theorem dX10_habit_1 : decode cX10_habit 1 = .ok (.iload_n 1, 1) := dw_27 wX10_habit_c rfl
theorem dX10_habit_2 : decode cX10_habit 2 = .ok (.invokevirtual 348, 3) := dw_182 wX10_habit_c 1 92 rfl rfl
theorem dX10_habit_5 : decode cX10_habit 5 = .ok (.ifCond .ne 5, 3) := dw_154 wX10_habit_c 0 5 rfl rfl rfl
theorem dX10_habit_8 : decode cX10_habit 8 = .ok (.iconst (-1), 1) := dw_2 wX10_habit_c rfl
theorem dX10_habit_9 : decode cX10_habit 9 = .ok (.ireturn, 1) := dw_172 wX10_habit_c rfl
theorem dX10_habit_10 : decode cX10_habit 10 = .ok (.aload_n 0, 1) := dw_42 wX10_habit_c rfl
theorem dX10_habit_11 : decode cX10_habit 11 = .ok (.iload_n 1, 1) := dw_27 wX10_habit_c rfl
theorem dX10_habit_12 : decode cX10_habit 12 = .ok (.invokevirtual 489, 3) := dw_182 wX10_habit_c 1 233 rfl rfl
theorem dX10_habit_15 : decode cX10_habit 15 = .ok (.iload_n 2, 1) := dw_28 wX10_habit_c rfl
theorem dX10_habit_16 : decode cX10_habit 16 = .ok (.ifCond .ne 8, 3) := dw_154 wX10_habit_c 0 8 rfl rfl rfl
theorem dX10_habit_19 : decode cX10_habit 19 = .ok (.aload_n 0, 1) := dw_42 wX10_habit_c rfl
theorem dX10_habit_20 : decode cX10_habit 20 = .ok (.getfield 481, 3) := dw_180 wX10_habit_c 1 225 rfl rfl
theorem dX10_habit_23 : decode cX10_habit 23 = .ok (.ireturn, 1) := dw_172 wX10_habit_c rfl
theorem dX10_habit_24 : decode cX10_habit 24 = .ok (.iload_n 2, 1) := dw_28 wX10_habit_c rfl
theorem dX10_habit_25 : decode cX10_habit 25 = .ok (.iconst 1, 1) := dw_4 wX10_habit_c rfl
theorem dX10_habit_26 : decode cX10_habit 26 = .ok (.if_icmp .ne 8, 3) := dw_160 wX10_habit_c 0 8 rfl rfl rfl
theorem dX10_habit_29 : decode cX10_habit 29 = .ok (.aload_n 0, 1) := dw_42 wX10_habit_c rfl
theorem dX10_habit_30 : decode cX10_habit 30 = .ok (.getfield 484, 3) := dw_180 wX10_habit_c 1 228 rfl rfl
theorem dX10_habit_33 : decode cX10_habit 33 = .ok (.ireturn, 1) := dw_172 wX10_habit_c rfl
theorem dX10_habit_34 : decode cX10_habit 34 = .ok (.iload_n 2, 1) := dw_28 wX10_habit_c rfl
theorem dX10_habit_35 : decode cX10_habit 35 = .ok (.iconst 2, 1) := dw_5 wX10_habit_c rfl
theorem dX10_habit_36 : decode cX10_habit 36 = .ok (.if_icmp .eq 5, 3) := dw_159 wX10_habit_c 0 5 rfl rfl rfl
theorem dX10_habit_39 : decode cX10_habit 39 = .ok (.iconst (-1), 1) := dw_2 wX10_habit_c rfl
theorem dX10_habit_40 : decode cX10_habit 40 = .ok (.ireturn, 1) := dw_172 wX10_habit_c rfl
theorem dX10_habit_41 : decode cX10_habit 41 = .ok (.aload_n 0, 1) := dw_42 wX10_habit_c rfl
theorem dX10_habit_42 : decode cX10_habit 42 = .ok (.aload_n 0, 1) := dw_42 wX10_habit_c rfl
theorem dX10_habit_43 : decode cX10_habit 43 = .ok (.getfield 481, 3) := dw_180 wX10_habit_c 1 225 rfl rfl
theorem dX10_habit_46 : decode cX10_habit 46 = .ok (.aload_n 0, 1) := dw_42 wX10_habit_c rfl
theorem dX10_habit_47 : decode cX10_habit 47 = .ok (.getfield 484, 3) := dw_180 wX10_habit_c 1 228 rfl rfl
theorem dX10_habit_50 : decode cX10_habit 50 = .ok (.invokevirtual 492, 3) := dw_182 wX10_habit_c 1 236 rfl rfl
theorem dX10_habit_53 : decode cX10_habit 53 = .ok (.ifCond .eq 7, 3) := dw_153 wX10_habit_c 0 7 rfl rfl rfl
theorem dX10_habit_56 : decode cX10_habit 56 = .ok (.iconst 1, 1) := dw_4 wX10_habit_c rfl
theorem dX10_habit_57 : decode cX10_habit 57 = .ok (.goto 28, 3) := dw_167 wX10_habit_c 0 28 rfl rfl rfl
theorem dX10_habit_60 : decode cX10_habit 60 = .ok (.aload_n 0, 1) := dw_42 wX10_habit_c rfl
theorem dX10_habit_61 : decode cX10_habit 61 = .ok (.aload_n 0, 1) := dw_42 wX10_habit_c rfl
theorem dX10_habit_62 : decode cX10_habit 62 = .ok (.getfield 481, 3) := dw_180 wX10_habit_c 1 225 rfl rfl
theorem dX10_habit_65 : decode cX10_habit 65 = .ok (.aload_n 0, 1) := dw_42 wX10_habit_c rfl
theorem dX10_habit_66 : decode cX10_habit 66 = .ok (.getfield 481, 3) := dw_180 wX10_habit_c 1 225 rfl rfl
theorem dX10_habit_69 : decode cX10_habit 69 = .ok (.aload_n 0, 1) := dw_42 wX10_habit_c rfl
theorem dX10_habit_70 : decode cX10_habit 70 = .ok (.getfield 484, 3) := dw_180 wX10_habit_c 1 228 rfl rfl
theorem dX10_habit_73 : decode cX10_habit 73 = .ok (.isub, 1) := dw_100 wX10_habit_c rfl
theorem dX10_habit_74 : decode cX10_habit 74 = .ok (.invokevirtual 492, 3) := dw_182 wX10_habit_c 1 236 rfl rfl
theorem dX10_habit_77 : decode cX10_habit 77 = .ok (.ifCond .eq 7, 3) := dw_153 wX10_habit_c 0 7 rfl rfl rfl
theorem dX10_habit_80 : decode cX10_habit 80 = .ok (.iconst 2, 1) := dw_5 wX10_habit_c rfl
theorem dX10_habit_81 : decode cX10_habit 81 = .ok (.goto 4, 3) := dw_167 wX10_habit_c 0 4 rfl rfl rfl
theorem dX10_habit_84 : decode cX10_habit 84 = .ok (.iconst 0, 1) := dw_3 wX10_habit_c rfl
theorem dX10_habit_85 : decode cX10_habit 85 = .ok (.ireturn, 1) := dw_172 wX10_habit_c rfl
set_option maxHeartbeats 4000000 in
set_option maxRecDepth 100000 in
theorem t_X10_habit (l : Launch) (dC : Nat → ClassId) (dI : Nat → Nat → Nat) (dA : Nat → ClassId) (L : List Nat) (h : hx_h) (sz : Nat) (x : Nat) (i1 : Int32) (i2 : Int32) (hT : hx_T T_tb L h) (gx : hx_g L h x 10)  : Met l yX10_habit (Cond.code yX10_habit cX10_habit 3 (some .int) :: hx_all) ({ frames := 2, cells := 0, slots := 0, locals := 43 }) (va_Pc [.ref x, .int i1, .int i2] (hx_B T_tb (P_ty dA) (dC, dI) vwCl L h sz)) (va_Qi (fun (r : Int32) (u : List Nat × hx_h) => (True) ∧ hx_T T_tb u.1 u.2 ∧ hx_S T_tb [(10, 95), (10, 96), (115, 0)] L h u.1 u.2) (hx_E T_tb (P_ty dA) (dC, dI) vwCl (hx_A L sz)) (hx_A L sz)) 0 0 (hx_A L sz) := by
  refine hx_met (lv := [(0, .ref x), (1, .int i1), (2, .int i2)]) (by decide +kernel) rfl (Nat.le_of_ble_eq_true rfl) rfl ?_
  intro p e s m below meth c hx hb hml hr hlk hts0 hown hin hsz hW ls hl
  have hts : ∀ w ∈ hx_all, w.before _ s = true := fun w hw => hts0 w (List.mem_cons_of_mem _ hw)
  have hown : s.vm.findClass "SmallCourtModel" = some m.cls := hown
  have hM : hx_S T_tb [(10, 95), (10, 96), (115, 0)] L h L h := hx_S.rf
  refine lv_aload_n hx hb dX10_habit_0 rfl (lv_at hl 0 rfl) ?_
  refine lv_iload_n hx hb dX10_habit_1 rfl (lv_at hl 1 rfl) ?_
  obtain ⟨fv_1, efv_1⟩ : ∃ y : Int32, y = h.2.1 x 20 := ⟨_, rfl⟩
  have bfv_1 := hT.gi (gx.S hM) tt_10 (k := 20) rfl
  rw [← efv_1] at bfv_1
  have bfv_1 : 0 ≤ fv_1.toInt ∧ fv_1.toInt ≤ 40 := bfv_1
  have ffv_1 := efv_1.symm
  refine hx_goi (hx_runV (As := [.int i1]) (rest := []) ⟨hx, hb, hml, hown, hts⟩ hW (gx.S hM) tt_10 (T := TX10) (N := 98) rfl (t_X10_isPerson l dC dI dA L h s.heap.size x i1 hT (gx.S hM) fv_1 ffv_1) (cwV 1 hts (hx_gV kw_1552 kw_1549 kw_1551 kw_68 kw_103) rfl rfl rfl (by decide +kernel) ⟨Nat.le_of_ble_eq_true rfl, Nat.le_of_ble_eq_true rfl⟩) rfl hl.1 rfl (Nat.le_of_ble_eq_true rfl) dX10_habit_2 ⟨Nat.le_of_ble_eq_true rfl, Nat.le_of_ble_eq_true rfl⟩) hW (fun r_4 L_2 h_3 H locs p_5 hW => ?_)
  obtain ⟨hr_6, hT, hs⟩ := p_5
  replace hT : hx_T T_tb L_2 h_3 := hT
  replace hs : hx_S T_tb [] L h L_2 h_3 := hs
  replace ffv_1 := (hs.o (gx.S hM) trivial rfl).1.trans ffv_1
  replace hM := hM.tr (hs.mono ?o0)
  case o0 => decide
  refine hb_if_ne (zx := r_4.toInt) (tgt := 10) hx hb rfl dX10_habit_5 ?o1 (fun c_7 => ?_) (fun c_7 => ?_)
  case o1 => decide
  · skip
    replace hr_6 := hr_6.resolve_left (fun z9 => c_7 z9.1)
    replace c_7 := hr_6.1
    replace hr_6 := hr_6.2
    refine lv_aload_n hx hb dX10_habit_10 rfl (lv_at hl 0 rfl) ?_
    refine lv_iload_n hx hb dX10_habit_11 rfl (lv_at hl 1 rfl) ?_
    refine hx_gov (hx_runV (As := [.int i1]) (rest := []) ⟨hx, hb, hml, hown, hts⟩ hW (gx.S hM) tt_10 (T := TX10) (N := 98) rfl (t_X10_habits l dC dI dA L_2 h_3 H.size x i1 hT (gx.S hM)) (cwV 1 hts (hx_gV kw_1740 kw_1737 kw_1739 kw_91 kw_103) rfl rfl rfl (by decide +kernel) ⟨Nat.le_of_ble_eq_true rfl, Nat.le_of_ble_eq_true rfl⟩) rfl hl.1 rfl (Nat.le_of_ble_eq_true rfl) dX10_habit_12 ⟨Nat.le_of_ble_eq_true rfl, Nat.le_of_ble_eq_true rfl⟩) hW (fun L_8 h_9 H locs p_11 hW => ?_)
    obtain ⟨⟨w_13, w_14, fw_13, fw_14, hr_12⟩, hT, hs⟩ := p_11
    replace hT : hx_T T_tb L_8 h_9 := hT
    replace hs : hx_S T_tb [(10, 95), (10, 96)] L_2 h_3 L_8 h_9 := hs
    replace ffv_1 := (hs.o (gx.S hM) trivial rfl).1.trans ffv_1
    replace hM := hM.tr (hs.mono ?o2)
    case o2 => decide
    have fw_13 : h_9.2.1 x 95 = w_13 := fw_13
    have bw_13 := hT.gi (gx.S hM) tt_10 (k := 95) rfl
    rw [fw_13] at bw_13
    have bw_13 : 0 ≤ w_13.toInt ∧ w_13.toInt ≤ 60 := bw_13
    have fw_14 : h_9.2.1 x 96 = w_14 := fw_14
    have bw_14 := hT.gi (gx.S hM) tt_10 (k := 96) rfl
    rw [fw_14] at bw_14
    have bw_14 : 0 ≤ w_14.toInt ∧ w_14.toInt ≤ 60 := bw_14
    refine lv_iload_n hx hb dX10_habit_15 rfl (lv_at hl 2 rfl) ?_
    refine hb_if_ne (zx := i2.toInt) (tgt := 24) hx hb rfl dX10_habit_16 ?o3 (fun c_15 => ?_) (fun c_15 => ?_)
    case o3 => decide
    · skip
      refine lv_iload_n hx hb dX10_habit_24 rfl (lv_at hl 2 rfl) ?_
      refine lv_iconst (v := 1) hx hb dX10_habit_25 ?o4 ?_
      case o4 => decide
      refine hb_icmp_ne (zx := i2.toInt) (zy := 1) (tgt := 34) hx hb rfl ?o5 dX10_habit_26 ?o6 (fun c_16 => ?_) (fun c_16 => ?_)
      case o5 => decide
      case o6 => decide
      · skip
        refine lv_iload_n hx hb dX10_habit_34 rfl (lv_at hl 2 rfl) ?_
        refine lv_iconst (v := 2) hx hb dX10_habit_35 ?o7 ?_
        case o7 => decide
        refine hb_icmp_eq (zx := i2.toInt) (zy := 2) (tgt := 41) hx hb rfl ?o8 dX10_habit_36 ?o9 (fun c_17 => ?_) (fun c_17 => ?_)
        case o8 => decide
        case o9 => decide
        · skip
          refine lv_aload_n hx hb dX10_habit_41 rfl (lv_at hl 0 rfl) ?_
          refine lv_aload_n hx hb dX10_habit_42 rfl (lv_at hl 0 rfl) ?_
          refine hk_geti hx hb hts hC_10 hown hW (gx.S hM) tt_10 95 ?o10 rfl kw_1238 ⟨rfl, rfl, rfl⟩ fw_13 dX10_habit_43 ?_
          case o10 => decide
          refine lv_aload_n hx hb dX10_habit_46 rfl (lv_at hl 0 rfl) ?_
          refine hk_geti hx hb hts hC_10 hown hW (gx.S hM) tt_10 96 ?o11 rfl kw_1239 ⟨rfl, rfl, rfl⟩ fw_14 dX10_habit_47 ?_
          case o11 => decide
          refine hx_goi (hx_runV (As := [.int w_13, .int w_14]) (rest := []) ⟨hx, hb, hml, hown, hts⟩ hW (gx.S hM) tt_10 (T := TX10) (N := 98) rfl (t_X10_isRare l dC dI dA L_8 h_9 H.size x w_13 w_14 hT (gx.S hM) ⟨?o12, ?o13⟩ ⟨?o14, ?o15⟩) (cwV 2 hts (hx_gV kw_1744 kw_1741 kw_1743 kw_92 kw_103) rfl rfl rfl (by decide +kernel) ⟨Nat.le_of_ble_eq_true rfl, Nat.le_of_ble_eq_true rfl⟩) rfl hl.1 rfl (Nat.le_of_ble_eq_true rfl) dX10_habit_50 ⟨Nat.le_of_ble_eq_true rfl, Nat.le_of_ble_eq_true rfl⟩) hW (fun r_20 L_18 h_19 H locs p_21 hW => ?_)
          case o12 => omega
          case o13 => omega
          case o14 => omega
          case o15 => omega
          obtain ⟨hr_22, hT, hs⟩ := p_21
          replace hT : hx_T T_tb L_18 h_19 := hT
          replace hs : hx_S T_tb [(115, 0)] L_8 h_9 L_18 h_19 := hs
          replace ffv_1 := (hs.o (gx.S hM) trivial rfl).1.trans ffv_1
          replace fw_13 := (hs.o (gx.S hM) trivial rfl).1.trans fw_13
          replace fw_14 := (hs.o (gx.S hM) trivial rfl).1.trans fw_14
          replace hM := hM.tr (hs.mono ?o16)
          case o16 => decide
          refine hb_if_eq (zx := r_20.toInt) (tgt := 60) hx hb rfl dX10_habit_53 ?o17 (fun c_23 => ?_) (fun c_23 => ?_)
          case o17 => decide
          · skip
            refine lv_aload_n hx hb dX10_habit_60 rfl (lv_at hl 0 rfl) ?_
            refine lv_aload_n hx hb dX10_habit_61 rfl (lv_at hl 0 rfl) ?_
            refine hk_geti hx hb hts hC_10 hown hW (gx.S hM) tt_10 95 ?o18 rfl kw_1238 ⟨rfl, rfl, rfl⟩ fw_13 dX10_habit_62 ?_
            case o18 => decide
            refine lv_aload_n hx hb dX10_habit_65 rfl (lv_at hl 0 rfl) ?_
            refine hk_geti hx hb hts hC_10 hown hW (gx.S hM) tt_10 95 ?o19 rfl kw_1238 ⟨rfl, rfl, rfl⟩ fw_13 dX10_habit_66 ?_
            case o19 => decide
            refine lv_aload_n hx hb dX10_habit_69 rfl (lv_at hl 0 rfl) ?_
            refine hk_geti hx hb hts hC_10 hown hW (gx.S hM) tt_10 96 ?o20 rfl kw_1239 ⟨rfl, rfl, rfl⟩ fw_14 dX10_habit_70 ?_
            case o20 => decide
            refine lv_isub hx hb dX10_habit_73 ?_
            have rg_24 := i32_r w_13
            have rg_25 := i32_r w_14
            refine lv_topi (fun x_26 ex_26 => ?_)
            have zx_26 : x_26.toInt = w_13.toInt - w_14.toInt := ?o21
            case o21 =>
              rw [ex_26]
              refine i32_sub rfl rfl ?o22 ?o23
              case o22 => omega
              case o23 => omega
            refine hx_goi (hx_runV (As := [.int w_13, .int x_26]) (rest := []) ⟨hx, hb, hml, hown, hts⟩ hW (gx.S hM) tt_10 (T := TX10) (N := 98) rfl (t_X10_isRare l dC dI dA L_18 h_19 H.size x w_13 x_26 hT (gx.S hM) ⟨?o24, ?o25⟩ ⟨?o26, ?o27⟩) (cwV 2 hts (hx_gV kw_1744 kw_1741 kw_1743 kw_92 kw_103) rfl rfl rfl (by decide +kernel) ⟨Nat.le_of_ble_eq_true rfl, Nat.le_of_ble_eq_true rfl⟩) rfl hl.1 rfl (Nat.le_of_ble_eq_true rfl) dX10_habit_74 ⟨Nat.le_of_ble_eq_true rfl, Nat.le_of_ble_eq_true rfl⟩) hW (fun r_29 L_27 h_28 H locs p_30 hW => ?_)
            case o24 => omega
            case o25 => omega
            case o26 => omega
            case o27 => omega
            obtain ⟨hr_31, hT, hs⟩ := p_30
            replace hT : hx_T T_tb L_27 h_28 := hT
            replace hs : hx_S T_tb [(115, 0)] L_18 h_19 L_27 h_28 := hs
            replace ffv_1 := (hs.o (gx.S hM) trivial rfl).1.trans ffv_1
            replace fw_13 := (hs.o (gx.S hM) trivial rfl).1.trans fw_13
            replace fw_14 := (hs.o (gx.S hM) trivial rfl).1.trans fw_14
            replace hM := hM.tr (hs.mono ?o28)
            case o28 => decide
            have jn_85 : ∀ (xj_32 : Int32) (ls : Array Slot), 0 ≤ xj_32.toInt → xj_32.toInt ≤ 2 → lv_has ls 3 [(0, .ref x), (1, .int i1), (2, .int i2)] → W p l e ({ frames := 2, cells := 0, slots := 0, locals := 43 }) s m ([.ref x, .int i1, .int i2] : List Value).toArray below meth c H locs 0 0 (MQ below (va_Qi (fun (r : Int32) (u : List Nat × hx_h) => (True) ∧ hx_T T_tb u.1 u.2 ∧ hx_S T_tb [(10, 95), (10, 96), (115, 0)] L h u.1 u.2) (hx_E T_tb (P_ty dA) (dC, dI) vwCl (hx_A L sz)) (hx_A L sz)) ([.ref x, .int i1, .int i2] : List Value).toArray s 0 0 (hx_A L sz)) (F0 m 85 ls [.int xj_32]) := by
              intro xj_32 ls blxj_32 buxj_32 hl
              exact hx_reti hx hb hr hlk hW ⟨trivial, hT, hM⟩ dX10_habit_85
            refine hb_if_eq (zx := r_29.toInt) (tgt := 84) hx hb rfl dX10_habit_77 ?o29 (fun c_33 => ?_) (fun c_33 => ?_)
            case o29 => decide
            · skip
              refine lv_iconst (v := 0) hx hb dX10_habit_84 ?o30 ?_
              case o30 => decide
              refine jn_85 (0 : Int32) ls ?o31 ?o32 hl
              case o31 => decide
              case o32 => decide
            · skip
              refine lv_iconst (v := 2) hx hb dX10_habit_80 ?o33 ?_
              case o33 => decide
              refine lv_goto (tgt := 85) hx hb dX10_habit_81 ?o34 ?_
              case o34 => decide
              refine jn_85 (2 : Int32) ls ?o35 ?o36 hl
              case o35 => decide
              case o36 => decide
          · skip
            refine lv_iconst (v := 1) hx hb dX10_habit_56 ?o37 ?_
            case o37 => decide
            refine lv_goto (tgt := 85) hx hb dX10_habit_57 ?o38 ?_
            case o38 => decide
            exact hx_reti hx hb hr hlk hW ⟨trivial, hT, hM⟩ dX10_habit_85
        · skip
          refine lv_iconst (v := -1) hx hb dX10_habit_39 ?o39 ?_
          case o39 => decide
          exact hx_reti hx hb hr hlk hW ⟨trivial, hT, hM⟩ dX10_habit_40
      · skip
        refine lv_aload_n hx hb dX10_habit_29 rfl (lv_at hl 0 rfl) ?_
        refine hk_geti hx hb hts hC_10 hown hW (gx.S hM) tt_10 96 ?o40 rfl kw_1239 ⟨rfl, rfl, rfl⟩ fw_14 dX10_habit_30 ?_
        case o40 => decide
        exact hx_reti hx hb hr hlk hW ⟨trivial, hT, hM⟩ dX10_habit_33
    · skip
      refine lv_aload_n hx hb dX10_habit_19 rfl (lv_at hl 0 rfl) ?_
      refine hk_geti hx hb hts hC_10 hown hW (gx.S hM) tt_10 95 ?o41 rfl kw_1238 ⟨rfl, rfl, rfl⟩ fw_13 dX10_habit_20 ?_
      case o41 => decide
      exact hx_reti hx hb hr hlk hW ⟨trivial, hT, hM⟩ dX10_habit_23
  · skip
    replace hr_6 := hr_6.resolve_right (fun z9 => absurd (c_7.symm.trans z9.1) ?o42)
    case o42 => decide
    replace hr_6 := hr_6.2
    refine lv_iconst (v := -1) hx hb dX10_habit_8 ?o43 ?_
    case o43 => decide
    exact hx_reti hx hb hr hlk hW ⟨trivial, hT, hM⟩ dX10_habit_9

def wNX10_count : Nat := 146025962961505950673363656105255261439246016655938568017190169746186071591912930036819372598655944859169878296439644955732875090219433911178268569899280272306281052350027213321527688283291849301836532678758779008386561677550977543904164536343003237880834343513785417030789322171942414257991083139204920617487643381581950390244162819
theorem wX10_count_c : hz_cd cX10_count wNX10_count 138 := ⟨by decide +kernel, by decide +kernel⟩
theorem dX10_count_0 : decode cX10_count 0 = .ok (.iconst 0, 1) := dw_3 wX10_count_c rfl
theorem dX10_count_1 : decode cX10_count 1 = .ok (.istore_n 2, 1) := dw_61 wX10_count_c rfl
theorem dX10_count_2 : decode cX10_count 2 = .ok (.iload_n 1, 1) := dw_27 wX10_count_c rfl
theorem dX10_count_3 : decode cX10_count 3 = .ok (.tableswitch 133 0 8 #[49, 54, 59, 64, 108, 113, 118, 123, 128], 49) := by decide +kernel
theorem dX10_count_52 : decode cX10_count 52 = .ok (.aload_n 0, 1) := dw_42 wX10_count_c rfl
theorem dX10_count_53 : decode cX10_count 53 = .ok (.getfield 232, 3) := dw_180 wX10_count_c 0 232 rfl rfl
theorem dX10_count_56 : decode cX10_count 56 = .ok (.ireturn, 1) := dw_172 wX10_count_c rfl
theorem dX10_count_57 : decode cX10_count 57 = .ok (.aload_n 0, 1) := dw_42 wX10_count_c rfl
theorem dX10_count_58 : decode cX10_count 58 = .ok (.getfield 321, 3) := dw_180 wX10_count_c 1 65 rfl rfl
theorem dX10_count_61 : decode cX10_count 61 = .ok (.ireturn, 1) := dw_172 wX10_count_c rfl
theorem dX10_count_62 : decode cX10_count 62 = .ok (.aload_n 0, 1) := dw_42 wX10_count_c rfl
theorem dX10_count_63 : decode cX10_count 63 = .ok (.getfield 337, 3) := dw_180 wX10_count_c 1 81 rfl rfl
theorem dX10_count_66 : decode cX10_count 66 = .ok (.ireturn, 1) := dw_172 wX10_count_c rfl
theorem dX10_count_67 : decode cX10_count 67 = .ok (.iconst 0, 1) := dw_3 wX10_count_c rfl
theorem dX10_count_68 : decode cX10_count 68 = .ok (.istore_n 3, 1) := dw_62 wX10_count_c rfl
theorem dX10_count_69 : decode cX10_count 69 = .ok (.iload_n 3, 1) := dw_29 wX10_count_c rfl
theorem dX10_count_70 : decode cX10_count 70 = .ok (.aload_n 0, 1) := dw_42 wX10_count_c rfl
theorem dX10_count_71 : decode cX10_count 71 = .ok (.getfield 337, 3) := dw_180 wX10_count_c 1 81 rfl rfl
theorem dX10_count_74 : decode cX10_count 74 = .ok (.if_icmp .ge 35, 3) := dw_162 wX10_count_c 0 35 rfl rfl rfl
theorem dX10_count_77 : decode cX10_count 77 = .ok (.iload_n 2, 1) := dw_28 wX10_count_c rfl
theorem dX10_count_78 : decode cX10_count 78 = .ok (.aload_n 0, 1) := dw_42 wX10_count_c rfl
theorem dX10_count_79 : decode cX10_count 79 = .ok (.getfield 60, 3) := dw_180 wX10_count_c 0 60 rfl rfl
theorem dX10_count_82 : decode cX10_count 82 = .ok (.iload_n 3, 1) := dw_29 wX10_count_c rfl
theorem dX10_count_83 : decode cX10_count 83 = .ok (.baload, 1) := dw_51 wX10_count_c rfl
theorem dX10_count_84 : decode cX10_count 84 = .ok (.ifCond .eq 16, 3) := dw_153 wX10_count_c 0 16 rfl rfl rfl
theorem dX10_count_87 : decode cX10_count 87 = .ok (.aload_n 0, 1) := dw_42 wX10_count_c rfl
theorem dX10_count_88 : decode cX10_count 88 = .ok (.getfield 56, 3) := dw_180 wX10_count_c 0 56 rfl rfl
theorem dX10_count_91 : decode cX10_count 91 = .ok (.iload_n 3, 1) := dw_29 wX10_count_c rfl
theorem dX10_count_92 : decode cX10_count 92 = .ok (.baload, 1) := dw_51 wX10_count_c rfl
theorem dX10_count_93 : decode cX10_count 93 = .ok (.ifCond .ne 7, 3) := dw_154 wX10_count_c 0 7 rfl rfl rfl
theorem dX10_count_96 : decode cX10_count 96 = .ok (.iconst 1, 1) := dw_4 wX10_count_c rfl
theorem dX10_count_97 : decode cX10_count 97 = .ok (.goto 4, 3) := dw_167 wX10_count_c 0 4 rfl rfl rfl
theorem dX10_count_100 : decode cX10_count 100 = .ok (.iconst 0, 1) := dw_3 wX10_count_c rfl
theorem dX10_count_101 : decode cX10_count 101 = .ok (.iadd, 1) := dw_96 wX10_count_c rfl
theorem dX10_count_102 : decode cX10_count 102 = .ok (.istore_n 2, 1) := dw_61 wX10_count_c rfl
theorem dX10_count_103 : decode cX10_count 103 = .ok (.iinc 3 1, 3) := dw_132 wX10_count_c 3 1 rfl rfl rfl
theorem dX10_count_106 : decode cX10_count 106 = .ok (.goto (-37), 3) := dn_167 wX10_count_c 255 219 rfl (by decide)
theorem dX10_count_109 : decode cX10_count 109 = .ok (.iload_n 2, 1) := dw_28 wX10_count_c rfl
theorem dX10_count_110 : decode cX10_count 110 = .ok (.ireturn, 1) := dw_172 wX10_count_c rfl
theorem dX10_count_111 : decode cX10_count 111 = .ok (.aload_n 0, 1) := dw_42 wX10_count_c rfl
theorem dX10_count_112 : decode cX10_count 112 = .ok (.getfield 351, 3) := dw_180 wX10_count_c 1 95 rfl rfl
theorem dX10_count_115 : decode cX10_count 115 = .ok (.ireturn, 1) := dw_172 wX10_count_c rfl
theorem dX10_count_116 : decode cX10_count 116 = .ok (.aload_n 0, 1) := dw_42 wX10_count_c rfl
theorem dX10_count_117 : decode cX10_count 117 = .ok (.getfield 367, 3) := dw_180 wX10_count_c 1 111 rfl rfl
theorem dX10_count_120 : decode cX10_count 120 = .ok (.ireturn, 1) := dw_172 wX10_count_c rfl
theorem dX10_count_121 : decode cX10_count 121 = .ok (.aload_n 0, 1) := dw_42 wX10_count_c rfl
theorem dX10_count_122 : decode cX10_count 122 = .ok (.getfield 413, 3) := dw_180 wX10_count_c 1 157 rfl rfl
theorem dX10_count_125 : decode cX10_count 125 = .ok (.ireturn, 1) := dw_172 wX10_count_c rfl
theorem dX10_count_126 : decode cX10_count 126 = .ok (.aload_n 0, 1) := dw_42 wX10_count_c rfl
theorem dX10_count_127 : decode cX10_count 127 = .ok (.getfield 236, 3) := dw_180 wX10_count_c 0 236 rfl rfl
theorem dX10_count_130 : decode cX10_count 130 = .ok (.ireturn, 1) := dw_172 wX10_count_c rfl
theorem dX10_count_131 : decode cX10_count 131 = .ok (.aload_n 0, 1) := dw_42 wX10_count_c rfl
theorem dX10_count_132 : decode cX10_count 132 = .ok (.getfield 468, 3) := dw_180 wX10_count_c 1 212 rfl rfl
theorem dX10_count_135 : decode cX10_count 135 = .ok (.ireturn, 1) := dw_172 wX10_count_c rfl
theorem dX10_count_136 : decode cX10_count 136 = .ok (.iconst (-1), 1) := dw_2 wX10_count_c rfl
theorem dX10_count_137 : decode cX10_count 137 = .ok (.ireturn, 1) := dw_172 wX10_count_c rfl
end
section
def wNX10_see : Nat := 151142303748594859502999659609844570375262622591458774229742173468349721447736870129719873894217302332802718340409377413191082726417058772546994421080663294784554
theorem wX10_see_c : hz_cd cX10_see wNX10_see 67 := ⟨by decide +kernel, by decide +kernel⟩
theorem dX10_see_0 : decode cX10_see 0 = .ok (.aload_n 0, 1) := dw_42 wX10_see_c rfl
theorem dX10_see_1 : decode cX10_see 1 = .ok (.getfield 245, 3) := dw_180 wX10_see_c 0 245 rfl rfl
theorem dX10_see_4 : decode cX10_see 4 = .ok (.aload_n 0, 1) := dw_42 wX10_see_c rfl
theorem dX10_see_5 : decode cX10_see 5 = .ok (.getfield 236, 3) := dw_180 wX10_see_c 0 236 rfl rfl
theorem dX10_see_8 : decode cX10_see 8 = .ok (.if_icmp .ge 30, 3) := dw_162 wX10_see_c 0 30 rfl rfl rfl
theorem dX10_see_11 : decode cX10_see 11 = .ok (.aload_n 0, 1) := dw_42 wX10_see_c rfl
theorem dX10_see_12 : decode cX10_see 12 = .ok (.getfield 22, 3) := dw_180 wX10_see_c 0 22 rfl rfl
theorem dX10_see_15 : decode cX10_see 15 = .ok (.aload_n 0, 1) := dw_42 wX10_see_c rfl
theorem dX10_see_16 : decode cX10_see 16 = .ok (.getfield 245, 3) := dw_180 wX10_see_c 0 245 rfl rfl
theorem dX10_see_19 : decode cX10_see 19 = .ok (.baload, 1) := dw_51 wX10_see_c rfl
theorem dX10_see_20 : decode cX10_see 20 = .ok (.bipush 32, 2) := dw_16 wX10_see_c 32 rfl rfl rfl
theorem dX10_see_22 : decode cX10_see 22 = .ok (.if_icmp .ne 16, 3) := dw_160 wX10_see_c 0 16 rfl rfl rfl
theorem dX10_see_25 : decode cX10_see 25 = .ok (.aload_n 0, 1) := dw_42 wX10_see_c rfl
theorem dX10_see_26 : decode cX10_see 26 = .ok (.dup, 1) := dw_89 wX10_see_c rfl
theorem dX10_see_27 : decode cX10_see 27 = .ok (.getfield 245, 3) := dw_180 wX10_see_c 0 245 rfl rfl
theorem dX10_see_30 : decode cX10_see 30 = .ok (.iconst 1, 1) := dw_4 wX10_see_c rfl
theorem dX10_see_31 : decode cX10_see 31 = .ok (.iadd, 1) := dw_96 wX10_see_c rfl
theorem dX10_see_32 : decode cX10_see 32 = .ok (.putfield 245, 3) := dw_181 wX10_see_c 0 245 rfl rfl
theorem dX10_see_35 : decode cX10_see 35 = .ok (.goto (-35), 3) := dn_167 wX10_see_c 255 221 rfl (by decide)
theorem dX10_see_38 : decode cX10_see 38 = .ok (.aload_n 0, 1) := dw_42 wX10_see_c rfl
theorem dX10_see_39 : decode cX10_see 39 = .ok (.getfield 245, 3) := dw_180 wX10_see_c 0 245 rfl rfl
theorem dX10_see_42 : decode cX10_see 42 = .ok (.aload_n 0, 1) := dw_42 wX10_see_c rfl
theorem dX10_see_43 : decode cX10_see 43 = .ok (.getfield 236, 3) := dw_180 wX10_see_c 0 236 rfl rfl
theorem dX10_see_46 : decode cX10_see 46 = .ok (.if_icmp .ge 19, 3) := dw_162 wX10_see_c 0 19 rfl rfl rfl
theorem dX10_see_49 : decode cX10_see 49 = .ok (.aload_n 0, 1) := dw_42 wX10_see_c rfl
theorem dX10_see_50 : decode cX10_see 50 = .ok (.getfield 22, 3) := dw_180 wX10_see_c 0 22 rfl rfl
theorem dX10_see_53 : decode cX10_see 53 = .ok (.aload_n 0, 1) := dw_42 wX10_see_c rfl
theorem dX10_see_54 : decode cX10_see 54 = .ok (.getfield 245, 3) := dw_180 wX10_see_c 0 245 rfl rfl
theorem dX10_see_57 : decode cX10_see 57 = .ok (.baload, 1) := dw_51 wX10_see_c rfl
theorem dX10_see_58 : decode cX10_see 58 = .ok (.sipush 255, 3) := dw_17 wX10_see_c 0 255 rfl rfl rfl
theorem dX10_see_61 : decode cX10_see 61 = .ok (.iand, 1) := dw_126 wX10_see_c rfl
theorem dX10_see_62 : decode cX10_see 62 = .ok (.goto 4, 3) := dw_167 wX10_see_c 0 4 rfl rfl rfl
theorem dX10_see_65 : decode cX10_see 65 = .ok (.iconst (-1), 1) := dw_2 wX10_see_c rfl
theorem dX10_see_66 : decode cX10_see 66 = .ok (.ireturn, 1) := dw_172 wX10_see_c rfl
def wNX10_wordHere : Nat := 1957882188619201299505882960516965862308835860336176503465250770406331608326279808436903951255204884672807655683813070435217911916777402027070187278411800054413059164051945378181701451302131691596394616325180382435985491903480591720071342273608501295450364254340226874999955313670389271130217539419331908984571743711105633083122499445059339181973947152321321416925305472015408440964068169629909156921371108598428638082175888299590825744607291767208282821030160209592164813319157653222954
theorem wX10_wordHere_c : hz_cd cX10_wordHere wNX10_wordHere 202 := ⟨by decide +kernel, by decide +kernel⟩
theorem dX10_wordHere_0 : decode cX10_wordHere 0 = .ok (.aload_n 0, 1) := dw_42 wX10_wordHere_c rfl
theorem dX10_wordHere_1 : decode cX10_wordHere 1 = .ok (.invokevirtual 248, 3) := dw_182 wX10_wordHere_c 0 248 rfl rfl
theorem dX10_wordHere_4 : decode cX10_wordHere 4 = .ok (.pop, 1) := dw_87 wX10_wordHere_c rfl
theorem dX10_wordHere_5 : decode cX10_wordHere 5 = .ok (.aload_n 0, 1) := dw_42 wX10_wordHere_c rfl
theorem dX10_wordHere_6 : decode cX10_wordHere 6 = .ok (.iconst 0, 1) := dw_3 wX10_wordHere_c rfl
theorem dX10_wordHere_7 : decode cX10_wordHere 7 = .ok (.putfield 252, 3) := dw_181 wX10_wordHere_c 0 252 rfl rfl
theorem dX10_wordHere_10 : decode cX10_wordHere 10 = .ok (.aload_n 0, 1) := dw_42 wX10_wordHere_c rfl
theorem dX10_wordHere_11 : decode cX10_wordHere 11 = .ok (.getfield 245, 3) := dw_180 wX10_wordHere_c 0 245 rfl rfl
theorem dX10_wordHere_14 : decode cX10_wordHere 14 = .ok (.aload_n 0, 1) := dw_42 wX10_wordHere_c rfl
theorem dX10_wordHere_15 : decode cX10_wordHere 15 = .ok (.getfield 252, 3) := dw_180 wX10_wordHere_c 0 252 rfl rfl
theorem dX10_wordHere_18 : decode cX10_wordHere 18 = .ok (.iadd, 1) := dw_96 wX10_wordHere_c rfl
theorem dX10_wordHere_19 : decode cX10_wordHere 19 = .ok (.aload_n 0, 1) := dw_42 wX10_wordHere_c rfl
theorem dX10_wordHere_20 : decode cX10_wordHere 20 = .ok (.getfield 236, 3) := dw_180 wX10_wordHere_c 0 236 rfl rfl
theorem dX10_wordHere_23 : decode cX10_wordHere 23 = .ok (.if_icmp .ge 54, 3) := dw_162 wX10_wordHere_c 0 54 rfl rfl rfl
theorem dX10_wordHere_26 : decode cX10_wordHere 26 = .ok (.aload_n 0, 1) := dw_42 wX10_wordHere_c rfl
theorem dX10_wordHere_27 : decode cX10_wordHere 27 = .ok (.getfield 22, 3) := dw_180 wX10_wordHere_c 0 22 rfl rfl
theorem dX10_wordHere_30 : decode cX10_wordHere 30 = .ok (.aload_n 0, 1) := dw_42 wX10_wordHere_c rfl
theorem dX10_wordHere_31 : decode cX10_wordHere 31 = .ok (.getfield 245, 3) := dw_180 wX10_wordHere_c 0 245 rfl rfl
theorem dX10_wordHere_34 : decode cX10_wordHere 34 = .ok (.aload_n 0, 1) := dw_42 wX10_wordHere_c rfl
theorem dX10_wordHere_35 : decode cX10_wordHere 35 = .ok (.getfield 252, 3) := dw_180 wX10_wordHere_c 0 252 rfl rfl
theorem dX10_wordHere_38 : decode cX10_wordHere 38 = .ok (.iadd, 1) := dw_96 wX10_wordHere_c rfl
theorem dX10_wordHere_39 : decode cX10_wordHere 39 = .ok (.baload, 1) := dw_51 wX10_wordHere_c rfl
theorem dX10_wordHere_40 : decode cX10_wordHere 40 = .ok (.bipush 97, 2) := dw_16 wX10_wordHere_c 97 rfl rfl rfl
theorem dX10_wordHere_42 : decode cX10_wordHere 42 = .ok (.if_icmp .lt 35, 3) := dw_161 wX10_wordHere_c 0 35 rfl rfl rfl
theorem dX10_wordHere_45 : decode cX10_wordHere 45 = .ok (.aload_n 0, 1) := dw_42 wX10_wordHere_c rfl
theorem dX10_wordHere_46 : decode cX10_wordHere 46 = .ok (.getfield 22, 3) := dw_180 wX10_wordHere_c 0 22 rfl rfl
theorem dX10_wordHere_49 : decode cX10_wordHere 49 = .ok (.aload_n 0, 1) := dw_42 wX10_wordHere_c rfl
theorem dX10_wordHere_50 : decode cX10_wordHere 50 = .ok (.getfield 245, 3) := dw_180 wX10_wordHere_c 0 245 rfl rfl
theorem dX10_wordHere_53 : decode cX10_wordHere 53 = .ok (.aload_n 0, 1) := dw_42 wX10_wordHere_c rfl
theorem dX10_wordHere_54 : decode cX10_wordHere 54 = .ok (.getfield 252, 3) := dw_180 wX10_wordHere_c 0 252 rfl rfl
theorem dX10_wordHere_57 : decode cX10_wordHere 57 = .ok (.iadd, 1) := dw_96 wX10_wordHere_c rfl
theorem dX10_wordHere_58 : decode cX10_wordHere 58 = .ok (.baload, 1) := dw_51 wX10_wordHere_c rfl
theorem dX10_wordHere_59 : decode cX10_wordHere 59 = .ok (.bipush 122, 2) := dw_16 wX10_wordHere_c 122 rfl rfl rfl
theorem dX10_wordHere_61 : decode cX10_wordHere 61 = .ok (.if_icmp .gt 16, 3) := dw_163 wX10_wordHere_c 0 16 rfl rfl rfl
theorem dX10_wordHere_64 : decode cX10_wordHere 64 = .ok (.aload_n 0, 1) := dw_42 wX10_wordHere_c rfl
theorem dX10_wordHere_65 : decode cX10_wordHere 65 = .ok (.dup, 1) := dw_89 wX10_wordHere_c rfl
theorem dX10_wordHere_66 : decode cX10_wordHere 66 = .ok (.getfield 252, 3) := dw_180 wX10_wordHere_c 0 252 rfl rfl
theorem dX10_wordHere_69 : decode cX10_wordHere 69 = .ok (.iconst 1, 1) := dw_4 wX10_wordHere_c rfl
theorem dX10_wordHere_70 : decode cX10_wordHere 70 = .ok (.iadd, 1) := dw_96 wX10_wordHere_c rfl
theorem dX10_wordHere_71 : decode cX10_wordHere 71 = .ok (.putfield 252, 3) := dw_181 wX10_wordHere_c 0 252 rfl rfl
theorem dX10_wordHere_74 : decode cX10_wordHere 74 = .ok (.goto (-64), 3) := dn_167 wX10_wordHere_c 255 192 rfl (by decide)
theorem dX10_wordHere_77 : decode cX10_wordHere 77 = .ok (.iconst 0, 1) := dw_3 wX10_wordHere_c rfl
theorem dX10_wordHere_78 : decode cX10_wordHere 78 = .ok (.istore_n 1, 1) := dw_60 wX10_wordHere_c rfl
theorem dX10_wordHere_79 : decode cX10_wordHere 79 = .ok (.iload_n 1, 1) := dw_27 wX10_wordHere_c rfl
theorem dX10_wordHere_80 : decode cX10_wordHere 80 = .ok (.bipush 25, 2) := dw_16 wX10_wordHere_c 25 rfl rfl rfl
theorem dX10_wordHere_82 : decode cX10_wordHere 82 = .ok (.if_icmp .ge 118, 3) := dw_162 wX10_wordHere_c 0 118 rfl rfl rfl
theorem dX10_wordHere_85 : decode cX10_wordHere 85 = .ok (.aload_n 0, 1) := dw_42 wX10_wordHere_c rfl
theorem dX10_wordHere_86 : decode cX10_wordHere 86 = .ok (.getfield 252, 3) := dw_180 wX10_wordHere_c 0 252 rfl rfl
theorem dX10_wordHere_89 : decode cX10_wordHere 89 = .ok (.bipush 7, 2) := dw_16 wX10_wordHere_c 7 rfl rfl rfl
theorem dX10_wordHere_91 : decode cX10_wordHere 91 = .ok (.if_icmp .gt 109, 3) := dw_163 wX10_wordHere_c 0 109 rfl rfl rfl
theorem dX10_wordHere_94 : decode cX10_wordHere 94 = .ok (.iconst 0, 1) := dw_3 wX10_wordHere_c rfl
theorem dX10_wordHere_95 : decode cX10_wordHere 95 = .ok (.istore_n 2, 1) := dw_61 wX10_wordHere_c rfl
theorem dX10_wordHere_96 : decode cX10_wordHere 96 = .ok (.iload_n 2, 1) := dw_28 wX10_wordHere_c rfl
theorem dX10_wordHere_97 : decode cX10_wordHere 97 = .ok (.bipush 7, 2) := dw_16 wX10_wordHere_c 7 rfl rfl rfl
theorem dX10_wordHere_99 : decode cX10_wordHere 99 = .ok (.if_icmp .ge 23, 3) := dw_162 wX10_wordHere_c 0 23 rfl rfl rfl
theorem dX10_wordHere_102 : decode cX10_wordHere 102 = .ok (.aload_n 0, 1) := dw_42 wX10_wordHere_c rfl
theorem dX10_wordHere_103 : decode cX10_wordHere 103 = .ok (.getfield 35, 3) := dw_180 wX10_wordHere_c 0 35 rfl rfl
theorem dX10_wordHere_106 : decode cX10_wordHere 106 = .ok (.bipush 7, 2) := dw_16 wX10_wordHere_c 7 rfl rfl rfl
theorem dX10_wordHere_108 : decode cX10_wordHere 108 = .ok (.iload_n 1, 1) := dw_27 wX10_wordHere_c rfl
theorem dX10_wordHere_109 : decode cX10_wordHere 109 = .ok (.imul, 1) := dw_104 wX10_wordHere_c rfl
theorem dX10_wordHere_110 : decode cX10_wordHere 110 = .ok (.iload_n 2, 1) := dw_28 wX10_wordHere_c rfl
theorem dX10_wordHere_111 : decode cX10_wordHere 111 = .ok (.iadd, 1) := dw_96 wX10_wordHere_c rfl
theorem dX10_wordHere_112 : decode cX10_wordHere 112 = .ok (.baload, 1) := dw_51 wX10_wordHere_c rfl
theorem dX10_wordHere_113 : decode cX10_wordHere 113 = .ok (.ifCond .eq 9, 3) := dw_153 wX10_wordHere_c 0 9 rfl rfl rfl
theorem dX10_wordHere_116 : decode cX10_wordHere 116 = .ok (.iinc 2 1, 3) := dw_132 wX10_wordHere_c 2 1 rfl rfl rfl
theorem dX10_wordHere_119 : decode cX10_wordHere 119 = .ok (.goto (-23), 3) := dn_167 wX10_wordHere_c 255 233 rfl (by decide)
theorem dX10_wordHere_122 : decode cX10_wordHere 122 = .ok (.iload_n 2, 1) := dw_28 wX10_wordHere_c rfl
theorem dX10_wordHere_123 : decode cX10_wordHere 123 = .ok (.aload_n 0, 1) := dw_42 wX10_wordHere_c rfl
theorem dX10_wordHere_124 : decode cX10_wordHere 124 = .ok (.getfield 252, 3) := dw_180 wX10_wordHere_c 0 252 rfl rfl
theorem dX10_wordHere_127 : decode cX10_wordHere 127 = .ok (.if_icmp .ne 7, 3) := dw_160 wX10_wordHere_c 0 7 rfl rfl rfl
theorem dX10_wordHere_130 : decode cX10_wordHere 130 = .ok (.iconst 1, 1) := dw_4 wX10_wordHere_c rfl
theorem dX10_wordHere_131 : decode cX10_wordHere 131 = .ok (.goto 4, 3) := dw_167 wX10_wordHere_c 0 4 rfl rfl rfl
theorem dX10_wordHere_134 : decode cX10_wordHere 134 = .ok (.iconst 0, 1) := dw_3 wX10_wordHere_c rfl
theorem dX10_wordHere_135 : decode cX10_wordHere 135 = .ok (.istore_n 3, 1) := dw_62 wX10_wordHere_c rfl
theorem dX10_wordHere_136 : decode cX10_wordHere 136 = .ok (.iconst 0, 1) := dw_3 wX10_wordHere_c rfl
theorem dX10_wordHere_137 : decode cX10_wordHere 137 = .ok (.istore 4, 2) := dw_54 wX10_wordHere_c 4 rfl
theorem dX10_wordHere_139 : decode cX10_wordHere 139 = .ok (.iload_n 3, 1) := dw_29 wX10_wordHere_c rfl
theorem dX10_wordHere_140 : decode cX10_wordHere 140 = .ok (.ifCond .eq 48, 3) := dw_153 wX10_wordHere_c 0 48 rfl rfl rfl
theorem dX10_wordHere_143 : decode cX10_wordHere 143 = .ok (.iload 4, 2) := dw_21 wX10_wordHere_c 4 rfl
theorem dX10_wordHere_145 : decode cX10_wordHere 145 = .ok (.iload_n 2, 1) := dw_28 wX10_wordHere_c rfl
theorem dX10_wordHere_146 : decode cX10_wordHere 146 = .ok (.if_icmp .ge 42, 3) := dw_162 wX10_wordHere_c 0 42 rfl rfl rfl
theorem dX10_wordHere_149 : decode cX10_wordHere 149 = .ok (.aload_n 0, 1) := dw_42 wX10_wordHere_c rfl
theorem dX10_wordHere_150 : decode cX10_wordHere 150 = .ok (.getfield 35, 3) := dw_180 wX10_wordHere_c 0 35 rfl rfl
theorem dX10_wordHere_153 : decode cX10_wordHere 153 = .ok (.bipush 7, 2) := dw_16 wX10_wordHere_c 7 rfl rfl rfl
theorem dX10_wordHere_155 : decode cX10_wordHere 155 = .ok (.iload_n 1, 1) := dw_27 wX10_wordHere_c rfl
theorem dX10_wordHere_156 : decode cX10_wordHere 156 = .ok (.imul, 1) := dw_104 wX10_wordHere_c rfl
theorem dX10_wordHere_157 : decode cX10_wordHere 157 = .ok (.iload 4, 2) := dw_21 wX10_wordHere_c 4 rfl
theorem dX10_wordHere_159 : decode cX10_wordHere 159 = .ok (.iadd, 1) := dw_96 wX10_wordHere_c rfl
theorem dX10_wordHere_160 : decode cX10_wordHere 160 = .ok (.baload, 1) := dw_51 wX10_wordHere_c rfl
theorem dX10_wordHere_161 : decode cX10_wordHere 161 = .ok (.aload_n 0, 1) := dw_42 wX10_wordHere_c rfl
theorem dX10_wordHere_162 : decode cX10_wordHere 162 = .ok (.getfield 22, 3) := dw_180 wX10_wordHere_c 0 22 rfl rfl
theorem dX10_wordHere_165 : decode cX10_wordHere 165 = .ok (.aload_n 0, 1) := dw_42 wX10_wordHere_c rfl
theorem dX10_wordHere_166 : decode cX10_wordHere 166 = .ok (.getfield 245, 3) := dw_180 wX10_wordHere_c 0 245 rfl rfl
theorem dX10_wordHere_169 : decode cX10_wordHere 169 = .ok (.iload 4, 2) := dw_21 wX10_wordHere_c 4 rfl
theorem dX10_wordHere_171 : decode cX10_wordHere 171 = .ok (.iadd, 1) := dw_96 wX10_wordHere_c rfl
theorem dX10_wordHere_172 : decode cX10_wordHere 172 = .ok (.baload, 1) := dw_51 wX10_wordHere_c rfl
theorem dX10_wordHere_173 : decode cX10_wordHere 173 = .ok (.if_icmp .ne 7, 3) := dw_160 wX10_wordHere_c 0 7 rfl rfl rfl
theorem dX10_wordHere_176 : decode cX10_wordHere 176 = .ok (.iconst 1, 1) := dw_4 wX10_wordHere_c rfl
theorem dX10_wordHere_177 : decode cX10_wordHere 177 = .ok (.goto 4, 3) := dw_167 wX10_wordHere_c 0 4 rfl rfl rfl
theorem dX10_wordHere_180 : decode cX10_wordHere 180 = .ok (.iconst 0, 1) := dw_3 wX10_wordHere_c rfl
theorem dX10_wordHere_181 : decode cX10_wordHere 181 = .ok (.istore_n 3, 1) := dw_62 wX10_wordHere_c rfl
theorem dX10_wordHere_182 : decode cX10_wordHere 182 = .ok (.iinc 4 1, 3) := dw_132 wX10_wordHere_c 4 1 rfl rfl rfl
theorem dX10_wordHere_185 : decode cX10_wordHere 185 = .ok (.goto (-46), 3) := dn_167 wX10_wordHere_c 255 210 rfl (by decide)
theorem dX10_wordHere_188 : decode cX10_wordHere 188 = .ok (.iload_n 3, 1) := dw_29 wX10_wordHere_c rfl
theorem dX10_wordHere_189 : decode cX10_wordHere 189 = .ok (.ifCond .eq 5, 3) := dw_153 wX10_wordHere_c 0 5 rfl rfl rfl
theorem dX10_wordHere_192 : decode cX10_wordHere 192 = .ok (.iload_n 1, 1) := dw_27 wX10_wordHere_c rfl
theorem dX10_wordHere_193 : decode cX10_wordHere 193 = .ok (.ireturn, 1) := dw_172 wX10_wordHere_c rfl
theorem dX10_wordHere_194 : decode cX10_wordHere 194 = .ok (.iinc 1 1, 3) := dw_132 wX10_wordHere_c 1 1 rfl rfl rfl
theorem dX10_wordHere_197 : decode cX10_wordHere 197 = .ok (.goto (-118), 3) := dn_167 wX10_wordHere_c 255 138 rfl (by decide)
theorem dX10_wordHere_200 : decode cX10_wordHere 200 = .ok (.iconst (-1), 1) := dw_2 wX10_wordHere_c rfl
theorem dX10_wordHere_201 : decode cX10_wordHere 201 = .ok (.ireturn, 1) := dw_172 wX10_wordHere_c rfl
def wNX10_number : Nat := 213418834339639832521153577551443117508896870424881802600295817234375703550706139668714117474575748105824967556937172559050725584006313756994273285175286086897681448044725292426060865977740624137849231648122061790122626840366291341045407970793369908258274119159923018820983527205602371421795874318421927323613624246638015310118682230483791523242935426844392664227994719477496329770
theorem wX10_number_c : hz_cd cX10_number wNX10_number 158 := ⟨by decide +kernel, by decide +kernel⟩
theorem dX10_number_0 : decode cX10_number 0 = .ok (.aload_n 0, 1) := dw_42 wX10_number_c rfl
theorem dX10_number_1 : decode cX10_number 1 = .ok (.invokevirtual 248, 3) := dw_182 wX10_number_c 0 248 rfl rfl
theorem dX10_number_4 : decode cX10_number 4 = .ok (.istore_n 3, 1) := dw_62 wX10_number_c rfl
theorem dX10_number_5 : decode cX10_number 5 = .ok (.iload_n 3, 1) := dw_29 wX10_number_c rfl
theorem dX10_number_6 : decode cX10_number 6 = .ok (.bipush 48, 2) := dw_16 wX10_number_c 48 rfl rfl rfl
theorem dX10_number_8 : decode cX10_number 8 = .ok (.if_icmp .lt 9, 3) := dw_161 wX10_number_c 0 9 rfl rfl rfl
theorem dX10_number_11 : decode cX10_number 11 = .ok (.iload_n 3, 1) := dw_29 wX10_number_c rfl
theorem dX10_number_12 : decode cX10_number 12 = .ok (.bipush 57, 2) := dw_16 wX10_number_c 57 rfl rfl rfl
theorem dX10_number_14 : decode cX10_number 14 = .ok (.if_icmp .le 13, 3) := dw_164 wX10_number_c 0 13 rfl rfl rfl
theorem dX10_number_17 : decode cX10_number 17 = .ok (.aload_n 0, 1) := dw_42 wX10_number_c rfl
theorem dX10_number_18 : decode cX10_number 18 = .ok (.iconst 0, 1) := dw_3 wX10_number_c rfl
theorem dX10_number_19 : decode cX10_number 19 = .ok (.aload_n 0, 1) := dw_42 wX10_number_c rfl
theorem dX10_number_20 : decode cX10_number 20 = .ok (.getfield 245, 3) := dw_180 wX10_number_c 0 245 rfl rfl
theorem dX10_number_23 : decode cX10_number 23 = .ok (.invokevirtual 255, 3) := dw_182 wX10_number_c 0 255 rfl rfl
theorem dX10_number_26 : decode cX10_number 26 = .ok (.ireturn, 1) := dw_172 wX10_number_c rfl
theorem dX10_number_27 : decode cX10_number 27 = .ok (.aload_n 0, 1) := dw_42 wX10_number_c rfl
theorem dX10_number_28 : decode cX10_number 28 = .ok (.getfield 245, 3) := dw_180 wX10_number_c 0 245 rfl rfl
theorem dX10_number_31 : decode cX10_number 31 = .ok (.istore 4, 2) := dw_54 wX10_number_c 4 rfl
theorem dX10_number_33 : decode cX10_number 33 = .ok (.iconst 0, 1) := dw_3 wX10_number_c rfl
theorem dX10_number_34 : decode cX10_number 34 = .ok (.istore 5, 2) := dw_54 wX10_number_c 5 rfl
theorem dX10_number_36 : decode cX10_number 36 = .ok (.iconst 0, 1) := dw_3 wX10_number_c rfl
theorem dX10_number_37 : decode cX10_number 37 = .ok (.istore 6, 2) := dw_54 wX10_number_c 6 rfl
theorem dX10_number_39 : decode cX10_number 39 = .ok (.aload_n 0, 1) := dw_42 wX10_number_c rfl
theorem dX10_number_40 : decode cX10_number 40 = .ok (.getfield 245, 3) := dw_180 wX10_number_c 0 245 rfl rfl
theorem dX10_number_43 : decode cX10_number 43 = .ok (.aload_n 0, 1) := dw_42 wX10_number_c rfl
theorem dX10_number_44 : decode cX10_number 44 = .ok (.getfield 236, 3) := dw_180 wX10_number_c 0 236 rfl rfl
theorem dX10_number_47 : decode cX10_number 47 = .ok (.if_icmp .ge 73, 3) := dw_162 wX10_number_c 0 73 rfl rfl rfl
theorem dX10_number_50 : decode cX10_number 50 = .ok (.aload_n 0, 1) := dw_42 wX10_number_c rfl
theorem dX10_number_51 : decode cX10_number 51 = .ok (.getfield 22, 3) := dw_180 wX10_number_c 0 22 rfl rfl
theorem dX10_number_54 : decode cX10_number 54 = .ok (.aload_n 0, 1) := dw_42 wX10_number_c rfl
theorem dX10_number_55 : decode cX10_number 55 = .ok (.getfield 245, 3) := dw_180 wX10_number_c 0 245 rfl rfl
theorem dX10_number_58 : decode cX10_number 58 = .ok (.baload, 1) := dw_51 wX10_number_c rfl
theorem dX10_number_59 : decode cX10_number 59 = .ok (.bipush 48, 2) := dw_16 wX10_number_c 48 rfl rfl rfl
theorem dX10_number_61 : decode cX10_number 61 = .ok (.if_icmp .lt 59, 3) := dw_161 wX10_number_c 0 59 rfl rfl rfl
theorem dX10_number_64 : decode cX10_number 64 = .ok (.aload_n 0, 1) := dw_42 wX10_number_c rfl
theorem dX10_number_65 : decode cX10_number 65 = .ok (.getfield 22, 3) := dw_180 wX10_number_c 0 22 rfl rfl
theorem dX10_number_68 : decode cX10_number 68 = .ok (.aload_n 0, 1) := dw_42 wX10_number_c rfl
theorem dX10_number_69 : decode cX10_number 69 = .ok (.getfield 245, 3) := dw_180 wX10_number_c 0 245 rfl rfl
theorem dX10_number_72 : decode cX10_number 72 = .ok (.baload, 1) := dw_51 wX10_number_c rfl
theorem dX10_number_73 : decode cX10_number 73 = .ok (.bipush 57, 2) := dw_16 wX10_number_c 57 rfl rfl rfl
theorem dX10_number_75 : decode cX10_number 75 = .ok (.if_icmp .gt 45, 3) := dw_163 wX10_number_c 0 45 rfl rfl rfl
theorem dX10_number_78 : decode cX10_number 78 = .ok (.iload 5, 2) := dw_21 wX10_number_c 5 rfl
theorem dX10_number_80 : decode cX10_number 80 = .ok (.iconst 4, 1) := dw_7 wX10_number_c rfl
theorem dX10_number_81 : decode cX10_number 81 = .ok (.if_icmp .ge 23, 3) := dw_162 wX10_number_c 0 23 rfl rfl rfl
theorem dX10_number_84 : decode cX10_number 84 = .ok (.bipush 10, 2) := dw_16 wX10_number_c 10 rfl rfl rfl
theorem dX10_number_86 : decode cX10_number 86 = .ok (.iload 6, 2) := dw_21 wX10_number_c 6 rfl
theorem dX10_number_88 : decode cX10_number 88 = .ok (.imul, 1) := dw_104 wX10_number_c rfl
theorem dX10_number_89 : decode cX10_number 89 = .ok (.aload_n 0, 1) := dw_42 wX10_number_c rfl
theorem dX10_number_90 : decode cX10_number 90 = .ok (.getfield 22, 3) := dw_180 wX10_number_c 0 22 rfl rfl
theorem dX10_number_93 : decode cX10_number 93 = .ok (.aload_n 0, 1) := dw_42 wX10_number_c rfl
theorem dX10_number_94 : decode cX10_number 94 = .ok (.getfield 245, 3) := dw_180 wX10_number_c 0 245 rfl rfl
theorem dX10_number_97 : decode cX10_number 97 = .ok (.baload, 1) := dw_51 wX10_number_c rfl
theorem dX10_number_98 : decode cX10_number 98 = .ok (.iadd, 1) := dw_96 wX10_number_c rfl
theorem dX10_number_99 : decode cX10_number 99 = .ok (.bipush 48, 2) := dw_16 wX10_number_c 48 rfl rfl rfl
theorem dX10_number_101 : decode cX10_number 101 = .ok (.isub, 1) := dw_100 wX10_number_c rfl
theorem dX10_number_102 : decode cX10_number 102 = .ok (.istore 6, 2) := dw_54 wX10_number_c 6 rfl
theorem dX10_number_104 : decode cX10_number 104 = .ok (.iinc 5 1, 3) := dw_132 wX10_number_c 5 1 rfl rfl rfl
theorem dX10_number_107 : decode cX10_number 107 = .ok (.aload_n 0, 1) := dw_42 wX10_number_c rfl
theorem dX10_number_108 : decode cX10_number 108 = .ok (.dup, 1) := dw_89 wX10_number_c rfl
theorem dX10_number_109 : decode cX10_number 109 = .ok (.getfield 245, 3) := dw_180 wX10_number_c 0 245 rfl rfl
theorem dX10_number_112 : decode cX10_number 112 = .ok (.iconst 1, 1) := dw_4 wX10_number_c rfl
theorem dX10_number_113 : decode cX10_number 113 = .ok (.iadd, 1) := dw_96 wX10_number_c rfl
theorem dX10_number_114 : decode cX10_number 114 = .ok (.putfield 245, 3) := dw_181 wX10_number_c 0 245 rfl rfl
theorem dX10_number_117 : decode cX10_number 117 = .ok (.goto (-78), 3) := dn_167 wX10_number_c 255 178 rfl (by decide)
theorem dX10_number_120 : decode cX10_number 120 = .ok (.aload_n 0, 1) := dw_42 wX10_number_c rfl
theorem dX10_number_121 : decode cX10_number 121 = .ok (.iload 6, 2) := dw_21 wX10_number_c 6 rfl
theorem dX10_number_123 : decode cX10_number 123 = .ok (.putfield 259, 3) := dw_181 wX10_number_c 1 3 rfl rfl
theorem dX10_number_126 : decode cX10_number 126 = .ok (.iload 5, 2) := dw_21 wX10_number_c 5 rfl
theorem dX10_number_128 : decode cX10_number 128 = .ok (.iconst 4, 1) := dw_7 wX10_number_c rfl
theorem dX10_number_129 : decode cX10_number 129 = .ok (.if_icmp .gt 13, 3) := dw_163 wX10_number_c 0 13 rfl rfl rfl
theorem dX10_number_132 : decode cX10_number 132 = .ok (.iload 6, 2) := dw_21 wX10_number_c 6 rfl
theorem dX10_number_134 : decode cX10_number 134 = .ok (.iload_n 1, 1) := dw_27 wX10_number_c rfl
theorem dX10_number_135 : decode cX10_number 135 = .ok (.iload_n 2, 1) := dw_28 wX10_number_c rfl
theorem dX10_number_136 : decode cX10_number 136 = .ok (.invokestatic 228, 3) := dw_184 wX10_number_c 0 228 rfl rfl
theorem dX10_number_139 : decode cX10_number 139 = .ok (.ifCond .ne 13, 3) := dw_154 wX10_number_c 0 13 rfl rfl rfl
theorem dX10_number_142 : decode cX10_number 142 = .ok (.aload_n 0, 1) := dw_42 wX10_number_c rfl
theorem dX10_number_143 : decode cX10_number 143 = .ok (.iconst 1, 1) := dw_4 wX10_number_c rfl
theorem dX10_number_144 : decode cX10_number 144 = .ok (.iload 4, 2) := dw_21 wX10_number_c 4 rfl
theorem dX10_number_146 : decode cX10_number 146 = .ok (.invokevirtual 255, 3) := dw_182 wX10_number_c 0 255 rfl rfl
theorem dX10_number_149 : decode cX10_number 149 = .ok (.ifCond .eq 7, 3) := dw_153 wX10_number_c 0 7 rfl rfl rfl
theorem dX10_number_152 : decode cX10_number 152 = .ok (.iconst 1, 1) := dw_4 wX10_number_c rfl
theorem dX10_number_153 : decode cX10_number 153 = .ok (.goto 4, 3) := dw_167 wX10_number_c 0 4 rfl rfl rfl
theorem dX10_number_156 : decode cX10_number 156 = .ok (.iconst 0, 1) := dw_3 wX10_number_c rfl
theorem dX10_number_157 : decode cX10_number 157 = .ok (.ireturn, 1) := dw_172 wX10_number_c rfl
theorem dX10_compareOf_0 : decode cX10_compareOf 0 = .ok (.ldc_w 268, 3) := by decide +kernel
theorem dX10_compareOf_3 : decode cX10_compareOf 3 = .ok (.iconst 1, 1) := by decide +kernel
theorem dX10_compareOf_4 : decode cX10_compareOf 4 = .ok (.iload_n 0, 1) := by decide +kernel
theorem dX10_compareOf_5 : decode cX10_compareOf 5 = .ok (.iadd, 1) := by decide +kernel
theorem dX10_compareOf_6 : decode cX10_compareOf 6 = .ok (.imul, 1) := by decide +kernel
theorem dX10_compareOf_7 : decode cX10_compareOf 7 = .ok (.ldc_w 269, 3) := by decide +kernel
theorem dX10_compareOf_10 : decode cX10_compareOf 10 = .ok (.iload_n 1, 1) := by decide +kernel
theorem dX10_compareOf_11 : decode cX10_compareOf 11 = .ok (.imul, 1) := by decide +kernel
theorem dX10_compareOf_12 : decode cX10_compareOf 12 = .ok (.iadd, 1) := by decide +kernel
theorem dX10_compareOf_13 : decode cX10_compareOf 13 = .ok (.iload_n 2, 1) := by decide +kernel
theorem dX10_compareOf_14 : decode cX10_compareOf 14 = .ok (.iadd, 1) := by decide +kernel
theorem dX10_compareOf_15 : decode cX10_compareOf 15 = .ok (.ireturn, 1) := by decide +kernel
theorem dX10_writes_0 : decode cX10_writes 0 = .ok (.aload_n 0, 1) := by decide +kernel
theorem dX10_writes_1 : decode cX10_writes 1 = .ok (.getfield 29, 3) := by decide +kernel
theorem dX10_writes_4 : decode cX10_writes 4 = .ok (.aload_n 0, 1) := by decide +kernel
theorem dX10_writes_5 : decode cX10_writes 5 = .ok (.getfield 262, 3) := by decide +kernel
theorem dX10_writes_8 : decode cX10_writes 8 = .ok (.iload_n 1, 1) := by decide +kernel
theorem dX10_writes_9 : decode cX10_writes 9 = .ok (.iastore, 1) := by decide +kernel
theorem dX10_writes_10 : decode cX10_writes 10 = .ok (.aload_n 0, 1) := by decide +kernel
theorem dX10_writes_11 : decode cX10_writes 11 = .ok (.dup, 1) := by decide +kernel
theorem dX10_writes_12 : decode cX10_writes 12 = .ok (.getfield 262, 3) := by decide +kernel
theorem dX10_writes_15 : decode cX10_writes 15 = .ok (.iconst 1, 1) := by decide +kernel
theorem dX10_writes_16 : decode cX10_writes 16 = .ok (.iadd, 1) := by decide +kernel
theorem dX10_writes_17 : decode cX10_writes 17 = .ok (.putfield 262, 3) := by decide +kernel
theorem dX10_writes_20 : decode cX10_writes 20 = .ok (.return_, 1) := by decide +kernel
set_option maxHeartbeats 4000000 in
set_option maxRecDepth 100000 in
theorem t_X10_writes (l : Launch) (dC : Nat → ClassId) (dI : Nat → Nat → Nat) (dA : Nat → ClassId) (L : List Nat) (h : hx_h) (sz : Nat) (x : Nat) (i1 : Int32) (hT : hx_T T_tb L h) (gx : hx_g L h x 10) (qs : Nat) (gqs : hx_g L h qs 55) (f_x_15 : h.2.2 x 15 = some qs) (sf : Nat → Int32) (af_qs : h.2.1 qs = sf) (st0 : Int32) (f_x_14 : h.2.1 x 14 = st0) (hst : st0.toInt ≤ 127) : Met l yX10_writes (Cond.code yX10_writes cX10_writes 2 none :: hx_all) ({ frames := 0, cells := 0, slots := 0, locals := 0 }) (va_Pc [.ref x, .int i1] (hx_B T_tb (P_ty dA) (dC, dI) vwCl L h sz)) (va_Qv (fun (u : List Nat × hx_h) => (∃ (st1 : Int32) (sf1 : Nat → Int32), u.2.2.1 x 14 = st1 ∧ u.2.2.1 qs = sf1 ∧ (st1.toInt = st0.toInt + 1 ∧ sf1 = hx_up sf st0.toNatClampNeg i1)) ∧ hx_T T_tb u.1 u.2 ∧ hx_S T_tb [(10, 14), (55, 0)] L h u.1 u.2) (hx_E T_tb (P_ty dA) (dC, dI) vwCl (hx_A L sz)) (hx_A L sz)) 0 0 (hx_A L sz) := by
  refine hx_met (lv := [(0, .ref x), (1, .int i1)]) (by decide +kernel) rfl (Nat.le_of_ble_eq_true rfl) rfl ?_
  intro p e s m below meth c hx hb hml hr hlk hts0 hown hin hsz hW ls hl
  have hts : ∀ w ∈ hx_all, w.before _ s = true := fun w hw => hts0 w (List.mem_cons_of_mem _ hw)
  have hown : s.vm.findClass "SmallCourtModel" = some m.cls := hown
  have hM : hx_S T_tb [(10, 14), (55, 0)] L h L h := hx_S.rf
  have b_st0 := hT.gi gx tt_10 (k := 14) rfl
  rw [f_x_14] at b_st0
  have b_st0 : 0 ≤ st0.toInt ∧ st0.toInt ≤ 128 := b_st0
  refine lv_aload_n hx hb dX10_writes_0 rfl (lv_at hl 0 rfl) ?_
  refine hk_getr hx hb hts hC_10 hown hW (gx.S hM) tt_10 15 ?o0 rfl kw_1158 ⟨rfl, rfl, rfl⟩ ((hM.o gx trivial rfl).2.trans f_x_15) dX10_writes_1 ?_
  case o0 => decide
  refine lv_aload_n hx hb dX10_writes_4 rfl (lv_at hl 0 rfl) ?_
  refine hk_geti hx hb hts hC_10 hown hW (gx.S hM) tt_10 14 ?o1 rfl kw_1157 ⟨rfl, rfl, rfl⟩ f_x_14 dX10_writes_5 ?_
  case o1 => decide
  refine lv_iload_n hx hb dX10_writes_8 rfl (lv_at hl 1 rfl) ?_
  have af_qsO := af_qs
  refine hx_iast hx hb hW hT (hx_S.rf (M := [(55, 0)])) (gqs.S hM) tt_55 rfl ⟨?o2, ?o3⟩ rfl (i32_r _) (List.mem_singleton.mpr rfl) dX10_writes_9 (fun H locs h_1 eh_1 hW hT hs => ?_)
  case o2 => omega
  case o3 => omega
  replace f_x_14 := (hs.o (gx.S hM) trivial rfl).1.trans f_x_14
  replace hM := hM.tr (hs.mono ?o4)
  case o4 => decide
  obtain ⟨fa_2, dfa_2⟩ : ∃ g : Nat → Int32, g = hx_up sf st0.toNatClampNeg i1 := ⟨_, rfl⟩
  have nfa_2 : h_1.2.1 qs = fa_2 := ?o5
  case o5 =>
    rw [eh_1, dfa_2, ← af_qsO]
    exact hx_pi_fun _ _ _ _
  refine lv_aload_n hx hb dX10_writes_10 rfl (lv_at hl 0 rfl) ?_
  refine lv_dup hx hb dX10_writes_11 rfl ?_
  refine hk_geti hx hb hts hC_10 hown hW (gx.S hM) tt_10 14 ?o6 rfl kw_1157 ⟨rfl, rfl, rfl⟩ f_x_14 dX10_writes_12 ?_
  case o6 => decide
  refine lv_iconst (v := 1) hx hb dX10_writes_15 ?o7 ?_
  case o7 => decide
  refine lv_iadd hx hb dX10_writes_16 ?_
  have rg_3 := i32_r st0
  refine lv_topi (fun x_4 ex_4 => ?_)
  have zx_4 : x_4.toInt = st0.toInt + 1 := ?o8
  case o8 =>
    rw [ex_4]
    refine i32_add rfl ?o9 ?o10 ?o11
    case o9 => decide
    case o10 => omega
    case o11 => omega
  refine hx_puti hx hb hts hC_10 hown hW hT (hx_S.rf (M := [(10, 14)])) (gx.S hM) tt_10 14 ?o12 rfl kw_1157 ⟨rfl, rfl, rfl⟩ rfl (x := x_4) ⟨?o13, ?o14⟩ rfl rfl rfl (List.mem_singleton.mpr rfl) dX10_writes_17 (fun H locs h_5 eh_5 hW hT hs => ?_)
  case o12 => decide
  case o13 => omega
  case o14 => omega
  replace nfa_2 : h_5.2.1 qs = fa_2 := (funext fun j => (hs.a (gqs.S hM) rfl j).1).trans nfa_2
  replace hM := hM.tr (hs.mono ?o15)
  case o15 => decide
  have f_6 : h_5.2.1 x 14 = x_4 := ?o16
  case o16 =>
    rw [eh_5]
    exact hx_pi_at _ _ _ _
  refine hx_retv hx hb hr hlk hW ⟨⟨x_4, fa_2, f_6, nfa_2, ⟨?o17, dfa_2⟩⟩, hT, hM⟩ dX10_writes_20
  case o17 => omega
end
section
def wNX10_compare : Nat := 7389236659516459509669610107446453748567880954776063663275831390977088969760612534716248697156718940990195758923930698670828183910691123617695095653624421551723073857537312323691260470038700765407349494421322130739198194079955527309126825028764753965388451661430866377361696284864903661073717660134220324340564381378699972535081282581428048990696735619030096040934771165564704749610039551347312752068826365679871673240325703077552646202253012026230984000713143878177878115116578853479940292560944401673154253696787696446652497044870924950159106460866397832540662888723922683217105882800100014300682817947118918190323799073726738741959583735176593838028827
theorem wX10_compare_c : hz_cd cX10_compare wNX10_compare 272 := ⟨by decide +kernel, by decide +kernel⟩
theorem dX10_compare_0 : decode cX10_compare 0 = .ok (.iload_n 1, 1) := dw_27 wX10_compare_c rfl
theorem dX10_compare_1 : decode cX10_compare 1 = .ok (.invokestatic 270, 3) := dw_184 wX10_compare_c 1 14 rfl rfl
theorem dX10_compare_4 : decode cX10_compare 4 = .ok (.ifCond .ne 13, 3) := dw_154 wX10_compare_c 0 13 rfl rfl rfl
theorem dX10_compare_7 : decode cX10_compare 7 = .ok (.aload_n 0, 1) := dw_42 wX10_compare_c rfl
theorem dX10_compare_8 : decode cX10_compare 8 = .ok (.iconst 0, 1) := dw_3 wX10_compare_c rfl
theorem dX10_compare_9 : decode cX10_compare 9 = .ok (.aload_n 0, 1) := dw_42 wX10_compare_c rfl
theorem dX10_compare_10 : decode cX10_compare 10 = .ok (.getfield 245, 3) := dw_180 wX10_compare_c 0 245 rfl rfl
theorem dX10_compare_13 : decode cX10_compare 13 = .ok (.invokevirtual 255, 3) := dw_182 wX10_compare_c 0 255 rfl rfl
theorem dX10_compare_16 : decode cX10_compare 16 = .ok (.ireturn, 1) := dw_172 wX10_compare_c rfl
theorem dX10_compare_17 : decode cX10_compare 17 = .ok (.aload_n 0, 1) := dw_42 wX10_compare_c rfl
theorem dX10_compare_18 : decode cX10_compare 18 = .ok (.getfield 274, 3) := dw_180 wX10_compare_c 1 18 rfl rfl
theorem dX10_compare_21 : decode cX10_compare 21 = .ok (.bipush 20, 2) := dw_16 wX10_compare_c 20 rfl rfl rfl
theorem dX10_compare_23 : decode cX10_compare 23 = .ok (.if_icmp .ne 13, 3) := dw_160 wX10_compare_c 0 13 rfl rfl rfl
theorem dX10_compare_26 : decode cX10_compare 26 = .ok (.aload_n 0, 1) := dw_42 wX10_compare_c rfl
theorem dX10_compare_27 : decode cX10_compare 27 = .ok (.iconst 4, 1) := dw_7 wX10_compare_c rfl
theorem dX10_compare_28 : decode cX10_compare 28 = .ok (.aload_n 0, 1) := dw_42 wX10_compare_c rfl
theorem dX10_compare_29 : decode cX10_compare 29 = .ok (.getfield 245, 3) := dw_180 wX10_compare_c 0 245 rfl rfl
theorem dX10_compare_32 : decode cX10_compare 32 = .ok (.invokevirtual 255, 3) := dw_182 wX10_compare_c 0 255 rfl rfl
theorem dX10_compare_35 : decode cX10_compare 35 = .ok (.ireturn, 1) := dw_172 wX10_compare_c rfl
theorem dX10_compare_36 : decode cX10_compare 36 = .ok (.aload_n 0, 1) := dw_42 wX10_compare_c rfl
theorem dX10_compare_37 : decode cX10_compare 37 = .ok (.dup, 1) := dw_89 wX10_compare_c rfl
theorem dX10_compare_38 : decode cX10_compare 38 = .ok (.getfield 274, 3) := dw_180 wX10_compare_c 1 18 rfl rfl
theorem dX10_compare_41 : decode cX10_compare 41 = .ok (.iconst 1, 1) := dw_4 wX10_compare_c rfl
theorem dX10_compare_42 : decode cX10_compare 42 = .ok (.iadd, 1) := dw_96 wX10_compare_c rfl
theorem dX10_compare_43 : decode cX10_compare 43 = .ok (.putfield 274, 3) := dw_181 wX10_compare_c 1 18 rfl rfl
theorem dX10_compare_46 : decode cX10_compare 46 = .ok (.aload_n 0, 1) := dw_42 wX10_compare_c rfl
theorem dX10_compare_47 : decode cX10_compare 47 = .ok (.dup, 1) := dw_89 wX10_compare_c rfl
theorem dX10_compare_48 : decode cX10_compare 48 = .ok (.getfield 245, 3) := dw_180 wX10_compare_c 0 245 rfl rfl
theorem dX10_compare_51 : decode cX10_compare 51 = .ok (.aload_n 0, 1) := dw_42 wX10_compare_c rfl
theorem dX10_compare_52 : decode cX10_compare 52 = .ok (.getfield 252, 3) := dw_180 wX10_compare_c 0 252 rfl rfl
theorem dX10_compare_55 : decode cX10_compare 55 = .ok (.iadd, 1) := dw_96 wX10_compare_c rfl
theorem dX10_compare_56 : decode cX10_compare 56 = .ok (.putfield 245, 3) := dw_181 wX10_compare_c 0 245 rfl rfl
theorem dX10_compare_59 : decode cX10_compare 59 = .ok (.aload_n 0, 1) := dw_42 wX10_compare_c rfl
theorem dX10_compare_60 : decode cX10_compare 60 = .ok (.invokevirtual 248, 3) := dw_182 wX10_compare_c 0 248 rfl rfl
theorem dX10_compare_63 : decode cX10_compare 63 = .ok (.istore_n 2, 1) := dw_61 wX10_compare_c rfl
theorem dX10_compare_64 : decode cX10_compare 64 = .ok (.iload_n 2, 1) := dw_28 wX10_compare_c rfl
theorem dX10_compare_65 : decode cX10_compare 65 = .ok (.bipush 60, 2) := dw_16 wX10_compare_c 60 rfl rfl rfl
theorem dX10_compare_67 : decode cX10_compare 67 = .ok (.if_icmp .eq 25, 3) := dw_159 wX10_compare_c 0 25 rfl rfl rfl
theorem dX10_compare_70 : decode cX10_compare 70 = .ok (.iload_n 2, 1) := dw_28 wX10_compare_c rfl
theorem dX10_compare_71 : decode cX10_compare 71 = .ok (.bipush 61, 2) := dw_16 wX10_compare_c 61 rfl rfl rfl
theorem dX10_compare_73 : decode cX10_compare 73 = .ok (.if_icmp .eq 19, 3) := dw_159 wX10_compare_c 0 19 rfl rfl rfl
theorem dX10_compare_76 : decode cX10_compare 76 = .ok (.iload_n 2, 1) := dw_28 wX10_compare_c rfl
theorem dX10_compare_77 : decode cX10_compare 77 = .ok (.bipush 62, 2) := dw_16 wX10_compare_c 62 rfl rfl rfl
theorem dX10_compare_79 : decode cX10_compare 79 = .ok (.if_icmp .eq 13, 3) := dw_159 wX10_compare_c 0 13 rfl rfl rfl
theorem dX10_compare_82 : decode cX10_compare 82 = .ok (.aload_n 0, 1) := dw_42 wX10_compare_c rfl
theorem dX10_compare_83 : decode cX10_compare 83 = .ok (.iconst 0, 1) := dw_3 wX10_compare_c rfl
theorem dX10_compare_84 : decode cX10_compare 84 = .ok (.aload_n 0, 1) := dw_42 wX10_compare_c rfl
theorem dX10_compare_85 : decode cX10_compare 85 = .ok (.getfield 245, 3) := dw_180 wX10_compare_c 0 245 rfl rfl
theorem dX10_compare_88 : decode cX10_compare 88 = .ok (.invokevirtual 255, 3) := dw_182 wX10_compare_c 0 255 rfl rfl
theorem dX10_compare_91 : decode cX10_compare 91 = .ok (.ireturn, 1) := dw_172 wX10_compare_c rfl
theorem dX10_compare_92 : decode cX10_compare 92 = .ok (.aload_n 0, 1) := dw_42 wX10_compare_c rfl
theorem dX10_compare_93 : decode cX10_compare 93 = .ok (.dup, 1) := dw_89 wX10_compare_c rfl
theorem dX10_compare_94 : decode cX10_compare 94 = .ok (.getfield 245, 3) := dw_180 wX10_compare_c 0 245 rfl rfl
theorem dX10_compare_97 : decode cX10_compare 97 = .ok (.iconst 1, 1) := dw_4 wX10_compare_c rfl
theorem dX10_compare_98 : decode cX10_compare 98 = .ok (.iadd, 1) := dw_96 wX10_compare_c rfl
theorem dX10_compare_99 : decode cX10_compare 99 = .ok (.putfield 245, 3) := dw_181 wX10_compare_c 0 245 rfl rfl
theorem dX10_compare_102 : decode cX10_compare 102 = .ok (.iload_n 2, 1) := dw_28 wX10_compare_c rfl
theorem dX10_compare_103 : decode cX10_compare 103 = .ok (.bipush 61, 2) := dw_16 wX10_compare_c 61 rfl rfl rfl
theorem dX10_compare_105 : decode cX10_compare 105 = .ok (.if_icmp .eq 32, 3) := dw_159 wX10_compare_c 0 32 rfl rfl rfl
theorem dX10_compare_108 : decode cX10_compare 108 = .ok (.aload_n 0, 1) := dw_42 wX10_compare_c rfl
theorem dX10_compare_109 : decode cX10_compare 109 = .ok (.getfield 245, 3) := dw_180 wX10_compare_c 0 245 rfl rfl
theorem dX10_compare_112 : decode cX10_compare 112 = .ok (.aload_n 0, 1) := dw_42 wX10_compare_c rfl
theorem dX10_compare_113 : decode cX10_compare 113 = .ok (.getfield 236, 3) := dw_180 wX10_compare_c 0 236 rfl rfl
theorem dX10_compare_116 : decode cX10_compare 116 = .ok (.if_icmp .ge 21, 3) := dw_162 wX10_compare_c 0 21 rfl rfl rfl
theorem dX10_compare_119 : decode cX10_compare 119 = .ok (.aload_n 0, 1) := dw_42 wX10_compare_c rfl
theorem dX10_compare_120 : decode cX10_compare 120 = .ok (.getfield 22, 3) := dw_180 wX10_compare_c 0 22 rfl rfl
theorem dX10_compare_123 : decode cX10_compare 123 = .ok (.aload_n 0, 1) := dw_42 wX10_compare_c rfl
theorem dX10_compare_124 : decode cX10_compare 124 = .ok (.getfield 245, 3) := dw_180 wX10_compare_c 0 245 rfl rfl
theorem dX10_compare_127 : decode cX10_compare 127 = .ok (.baload, 1) := dw_51 wX10_compare_c rfl
theorem dX10_compare_128 : decode cX10_compare 128 = .ok (.bipush 61, 2) := dw_16 wX10_compare_c 61 rfl rfl rfl
theorem dX10_compare_130 : decode cX10_compare 130 = .ok (.if_icmp .ne 7, 3) := dw_160 wX10_compare_c 0 7 rfl rfl rfl
theorem dX10_compare_133 : decode cX10_compare 133 = .ok (.iconst 1, 1) := dw_4 wX10_compare_c rfl
theorem dX10_compare_134 : decode cX10_compare 134 = .ok (.goto 4, 3) := dw_167 wX10_compare_c 0 4 rfl rfl rfl
theorem dX10_compare_137 : decode cX10_compare 137 = .ok (.iconst 0, 1) := dw_3 wX10_compare_c rfl
theorem dX10_compare_138 : decode cX10_compare 138 = .ok (.istore_n 3, 1) := dw_62 wX10_compare_c rfl
theorem dX10_compare_139 : decode cX10_compare 139 = .ok (.iload_n 3, 1) := dw_29 wX10_compare_c rfl
theorem dX10_compare_140 : decode cX10_compare 140 = .ok (.ifCond .eq 13, 3) := dw_153 wX10_compare_c 0 13 rfl rfl rfl
theorem dX10_compare_143 : decode cX10_compare 143 = .ok (.aload_n 0, 1) := dw_42 wX10_compare_c rfl
theorem dX10_compare_144 : decode cX10_compare 144 = .ok (.dup, 1) := dw_89 wX10_compare_c rfl
theorem dX10_compare_145 : decode cX10_compare 145 = .ok (.getfield 245, 3) := dw_180 wX10_compare_c 0 245 rfl rfl
theorem dX10_compare_148 : decode cX10_compare 148 = .ok (.iconst 1, 1) := dw_4 wX10_compare_c rfl
theorem dX10_compare_149 : decode cX10_compare 149 = .ok (.iadd, 1) := dw_96 wX10_compare_c rfl
theorem dX10_compare_150 : decode cX10_compare 150 = .ok (.putfield 245, 3) := dw_181 wX10_compare_c 0 245 rfl rfl
theorem dX10_compare_153 : decode cX10_compare 153 = .ok (.iload_n 2, 1) := dw_28 wX10_compare_c rfl
theorem dX10_compare_154 : decode cX10_compare 154 = .ok (.bipush 60, 2) := dw_16 wX10_compare_c 60 rfl rfl rfl
theorem dX10_compare_156 : decode cX10_compare 156 = .ok (.if_icmp .ne 15, 3) := dw_160 wX10_compare_c 0 15 rfl rfl rfl
theorem dX10_compare_159 : decode cX10_compare 159 = .ok (.iload_n 3, 1) := dw_29 wX10_compare_c rfl
theorem dX10_compare_160 : decode cX10_compare 160 = .ok (.ifCond .eq 7, 3) := dw_153 wX10_compare_c 0 7 rfl rfl rfl
theorem dX10_compare_163 : decode cX10_compare 163 = .ok (.iconst 1, 1) := dw_4 wX10_compare_c rfl
theorem dX10_compare_164 : decode cX10_compare 164 = .ok (.goto 26, 3) := dw_167 wX10_compare_c 0 26 rfl rfl rfl
theorem dX10_compare_167 : decode cX10_compare 167 = .ok (.iconst 0, 1) := dw_3 wX10_compare_c rfl
theorem dX10_compare_168 : decode cX10_compare 168 = .ok (.goto 22, 3) := dw_167 wX10_compare_c 0 22 rfl rfl rfl
theorem dX10_compare_171 : decode cX10_compare 171 = .ok (.iload_n 2, 1) := dw_28 wX10_compare_c rfl
theorem dX10_compare_172 : decode cX10_compare 172 = .ok (.bipush 61, 2) := dw_16 wX10_compare_c 61 rfl rfl rfl
theorem dX10_compare_174 : decode cX10_compare 174 = .ok (.if_icmp .ne 7, 3) := dw_160 wX10_compare_c 0 7 rfl rfl rfl
theorem dX10_compare_177 : decode cX10_compare 177 = .ok (.iconst 2, 1) := dw_5 wX10_compare_c rfl
theorem dX10_compare_178 : decode cX10_compare 178 = .ok (.goto 12, 3) := dw_167 wX10_compare_c 0 12 rfl rfl rfl
theorem dX10_compare_181 : decode cX10_compare 181 = .ok (.iload_n 3, 1) := dw_29 wX10_compare_c rfl
theorem dX10_compare_182 : decode cX10_compare 182 = .ok (.ifCond .eq 7, 3) := dw_153 wX10_compare_c 0 7 rfl rfl rfl
theorem dX10_compare_185 : decode cX10_compare 185 = .ok (.iconst 3, 1) := dw_6 wX10_compare_c rfl
theorem dX10_compare_186 : decode cX10_compare 186 = .ok (.goto 4, 3) := dw_167 wX10_compare_c 0 4 rfl rfl rfl
theorem dX10_compare_189 : decode cX10_compare 189 = .ok (.iconst 4, 1) := dw_7 wX10_compare_c rfl
theorem dX10_compare_190 : decode cX10_compare 190 = .ok (.istore 4, 2) := dw_54 wX10_compare_c 4 rfl
theorem dX10_compare_192 : decode cX10_compare 192 = .ok (.aload_n 0, 1) := dw_42 wX10_compare_c rfl
theorem dX10_compare_193 : decode cX10_compare 193 = .ok (.invokevirtual 277, 3) := dw_182 wX10_compare_c 1 21 rfl rfl
theorem dX10_compare_196 : decode cX10_compare 196 = .ok (.istore 5, 2) := dw_54 wX10_compare_c 5 rfl
theorem dX10_compare_198 : decode cX10_compare 198 = .ok (.iload 5, 2) := dw_21 wX10_compare_c 5 rfl
theorem dX10_compare_200 : decode cX10_compare 200 = .ok (.invokestatic 270, 3) := dw_184 wX10_compare_c 1 14 rfl rfl
theorem dX10_compare_203 : decode cX10_compare 203 = .ok (.ifCond .eq 38, 3) := dw_153 wX10_compare_c 0 38 rfl rfl rfl
theorem dX10_compare_206 : decode cX10_compare 206 = .ok (.aload_n 0, 1) := dw_42 wX10_compare_c rfl
theorem dX10_compare_207 : decode cX10_compare 207 = .ok (.dup, 1) := dw_89 wX10_compare_c rfl
theorem dX10_compare_208 : decode cX10_compare 208 = .ok (.getfield 245, 3) := dw_180 wX10_compare_c 0 245 rfl rfl
theorem dX10_compare_211 : decode cX10_compare 211 = .ok (.aload_n 0, 1) := dw_42 wX10_compare_c rfl
theorem dX10_compare_212 : decode cX10_compare 212 = .ok (.getfield 252, 3) := dw_180 wX10_compare_c 0 252 rfl rfl
theorem dX10_compare_215 : decode cX10_compare 215 = .ok (.iadd, 1) := dw_96 wX10_compare_c rfl
theorem dX10_compare_216 : decode cX10_compare 216 = .ok (.putfield 245, 3) := dw_181 wX10_compare_c 0 245 rfl rfl
theorem dX10_compare_219 : decode cX10_compare 219 = .ok (.aload_n 0, 1) := dw_42 wX10_compare_c rfl
theorem dX10_compare_220 : decode cX10_compare 220 = .ok (.iload_n 1, 1) := dw_27 wX10_compare_c rfl
theorem dX10_compare_221 : decode cX10_compare 221 = .ok (.iconst 3, 1) := dw_6 wX10_compare_c rfl
theorem dX10_compare_222 : decode cX10_compare 222 = .ok (.isub, 1) := dw_100 wX10_compare_c rfl
theorem dX10_compare_223 : decode cX10_compare 223 = .ok (.iload 4, 2) := dw_21 wX10_compare_c 4 rfl
theorem dX10_compare_225 : decode cX10_compare 225 = .ok (.sipush 10000, 3) := dw_17 wX10_compare_c 39 16 rfl rfl rfl
theorem dX10_compare_228 : decode cX10_compare 228 = .ok (.iload 5, 2) := dw_21 wX10_compare_c 5 rfl
theorem dX10_compare_230 : decode cX10_compare 230 = .ok (.iadd, 1) := dw_96 wX10_compare_c rfl
theorem dX10_compare_231 : decode cX10_compare 231 = .ok (.iconst 3, 1) := dw_6 wX10_compare_c rfl
theorem dX10_compare_232 : decode cX10_compare 232 = .ok (.isub, 1) := dw_100 wX10_compare_c rfl
theorem dX10_compare_233 : decode cX10_compare 233 = .ok (.invokestatic 280, 3) := dw_184 wX10_compare_c 1 24 rfl rfl
theorem dX10_compare_236 : decode cX10_compare 236 = .ok (.invokevirtual 284, 3) := dw_182 wX10_compare_c 1 28 rfl rfl
theorem dX10_compare_239 : decode cX10_compare 239 = .ok (.iconst 1, 1) := dw_4 wX10_compare_c rfl
theorem dX10_compare_240 : decode cX10_compare 240 = .ok (.ireturn, 1) := dw_172 wX10_compare_c rfl
theorem dX10_compare_241 : decode cX10_compare 241 = .ok (.aload_n 0, 1) := dw_42 wX10_compare_c rfl
theorem dX10_compare_242 : decode cX10_compare 242 = .ok (.iconst 0, 1) := dw_3 wX10_compare_c rfl
theorem dX10_compare_243 : decode cX10_compare 243 = .ok (.sipush 9999, 3) := dw_17 wX10_compare_c 39 15 rfl rfl rfl
theorem dX10_compare_246 : decode cX10_compare 246 = .ok (.invokevirtual 287, 3) := dw_182 wX10_compare_c 1 31 rfl rfl
theorem dX10_compare_249 : decode cX10_compare 249 = .ok (.ifCond .ne 5, 3) := dw_154 wX10_compare_c 0 5 rfl rfl rfl
theorem dX10_compare_252 : decode cX10_compare 252 = .ok (.iconst 0, 1) := dw_3 wX10_compare_c rfl
theorem dX10_compare_253 : decode cX10_compare 253 = .ok (.ireturn, 1) := dw_172 wX10_compare_c rfl
theorem dX10_compare_254 : decode cX10_compare 254 = .ok (.aload_n 0, 1) := dw_42 wX10_compare_c rfl
theorem dX10_compare_255 : decode cX10_compare 255 = .ok (.iload_n 1, 1) := dw_27 wX10_compare_c rfl
theorem dX10_compare_256 : decode cX10_compare 256 = .ok (.iconst 3, 1) := dw_6 wX10_compare_c rfl
theorem dX10_compare_257 : decode cX10_compare 257 = .ok (.isub, 1) := dw_100 wX10_compare_c rfl
theorem dX10_compare_258 : decode cX10_compare 258 = .ok (.iload 4, 2) := dw_21 wX10_compare_c 4 rfl
theorem dX10_compare_260 : decode cX10_compare 260 = .ok (.aload_n 0, 1) := dw_42 wX10_compare_c rfl
theorem dX10_compare_261 : decode cX10_compare 261 = .ok (.getfield 259, 3) := dw_180 wX10_compare_c 1 3 rfl rfl
theorem dX10_compare_264 : decode cX10_compare 264 = .ok (.invokestatic 280, 3) := dw_184 wX10_compare_c 1 24 rfl rfl
theorem dX10_compare_267 : decode cX10_compare 267 = .ok (.invokevirtual 284, 3) := dw_182 wX10_compare_c 1 28 rfl rfl
theorem dX10_compare_270 : decode cX10_compare 270 = .ok (.iconst 1, 1) := dw_4 wX10_compare_c rfl
theorem dX10_compare_271 : decode cX10_compare 271 = .ok (.ireturn, 1) := dw_172 wX10_compare_c rfl
end
section
def wNX10_closesNots : Nat := 379905307890462226614338447542943968691229454886998367638100993116696079397029620871449096919036970
theorem wX10_closesNots_c : hz_cd cX10_closesNots wNX10_closesNots 41 := ⟨by decide +kernel, by decide +kernel⟩
theorem dX10_closesNots_0 : decode cX10_closesNots 0 = .ok (.aload_n 0, 1) := dw_42 wX10_closesNots_c rfl
theorem dX10_closesNots_1 : decode cX10_closesNots 1 = .ok (.getfield 265, 3) := dw_180 wX10_closesNots_c 1 9 rfl rfl
theorem dX10_closesNots_4 : decode cX10_closesNots 4 = .ok (.ifCond .le 36, 3) := dw_158 wX10_closesNots_c 0 36 rfl rfl rfl
theorem dX10_closesNots_7 : decode cX10_closesNots 7 = .ok (.aload_n 0, 1) := dw_42 wX10_closesNots_c rfl
theorem dX10_closesNots_8 : decode cX10_closesNots 8 = .ok (.getfield 32, 3) := dw_180 wX10_closesNots_c 0 32 rfl rfl
theorem dX10_closesNots_11 : decode cX10_closesNots 11 = .ok (.aload_n 0, 1) := dw_42 wX10_closesNots_c rfl
theorem dX10_closesNots_12 : decode cX10_closesNots 12 = .ok (.getfield 265, 3) := dw_180 wX10_closesNots_c 1 9 rfl rfl
theorem dX10_closesNots_15 : decode cX10_closesNots 15 = .ok (.iconst 1, 1) := dw_4 wX10_closesNots_c rfl
theorem dX10_closesNots_16 : decode cX10_closesNots 16 = .ok (.isub, 1) := dw_100 wX10_closesNots_c rfl
theorem dX10_closesNots_17 : decode cX10_closesNots 17 = .ok (.iaload, 1) := dw_46 wX10_closesNots_c rfl
theorem dX10_closesNots_18 : decode cX10_closesNots 18 = .ok (.iconst 2, 1) := dw_5 wX10_closesNots_c rfl
theorem dX10_closesNots_19 : decode cX10_closesNots 19 = .ok (.if_icmp .ne 21, 3) := dw_160 wX10_closesNots_c 0 21 rfl rfl rfl
theorem dX10_closesNots_22 : decode cX10_closesNots 22 = .ok (.aload_n 0, 1) := dw_42 wX10_closesNots_c rfl
theorem dX10_closesNots_23 : decode cX10_closesNots 23 = .ok (.iconst 2, 1) := dw_5 wX10_closesNots_c rfl
theorem dX10_closesNots_24 : decode cX10_closesNots 24 = .ok (.invokevirtual 284, 3) := dw_182 wX10_closesNots_c 1 28 rfl rfl
theorem dX10_closesNots_27 : decode cX10_closesNots 27 = .ok (.aload_n 0, 1) := dw_42 wX10_closesNots_c rfl
theorem dX10_closesNots_28 : decode cX10_closesNots 28 = .ok (.dup, 1) := dw_89 wX10_closesNots_c rfl
theorem dX10_closesNots_29 : decode cX10_closesNots 29 = .ok (.getfield 265, 3) := dw_180 wX10_closesNots_c 1 9 rfl rfl
theorem dX10_closesNots_32 : decode cX10_closesNots 32 = .ok (.iconst 1, 1) := dw_4 wX10_closesNots_c rfl
theorem dX10_closesNots_33 : decode cX10_closesNots 33 = .ok (.isub, 1) := dw_100 wX10_closesNots_c rfl
theorem dX10_closesNots_34 : decode cX10_closesNots 34 = .ok (.putfield 265, 3) := dw_181 wX10_closesNots_c 1 9 rfl rfl
theorem dX10_closesNots_37 : decode cX10_closesNots 37 = .ok (.goto (-37), 3) := dn_167 wX10_closesNots_c 255 219 rfl (by decide)
theorem dX10_closesNots_40 : decode cX10_closesNots 40 = .ok (.return_, 1) := dw_177 wX10_closesNots_c rfl
def wNX10_closesDown : Nat := 156194736501486184841560473626237431618043558250293090022917335775634932923771055869009533666988146778518119446388154360506079132671727619835338005297880816006186
theorem wX10_closesDown_c : hz_cd cX10_closesDown wNX10_closesDown 67 := ⟨by decide +kernel, by decide +kernel⟩
theorem dX10_closesDown_0 : decode cX10_closesDown 0 = .ok (.aload_n 0, 1) := dw_42 wX10_closesDown_c rfl
theorem dX10_closesDown_1 : decode cX10_closesDown 1 = .ok (.getfield 265, 3) := dw_180 wX10_closesDown_c 1 9 rfl rfl
theorem dX10_closesDown_4 : decode cX10_closesDown 4 = .ok (.ifCond .le 62, 3) := dw_158 wX10_closesDown_c 0 62 rfl rfl rfl
theorem dX10_closesDown_7 : decode cX10_closesDown 7 = .ok (.aload_n 0, 1) := dw_42 wX10_closesDown_c rfl
theorem dX10_closesDown_8 : decode cX10_closesDown 8 = .ok (.getfield 32, 3) := dw_180 wX10_closesDown_c 0 32 rfl rfl
theorem dX10_closesDown_11 : decode cX10_closesDown 11 = .ok (.aload_n 0, 1) := dw_42 wX10_closesDown_c rfl
theorem dX10_closesDown_12 : decode cX10_closesDown 12 = .ok (.getfield 265, 3) := dw_180 wX10_closesDown_c 1 9 rfl rfl
theorem dX10_closesDown_15 : decode cX10_closesDown 15 = .ok (.iconst 1, 1) := dw_4 wX10_closesDown_c rfl
theorem dX10_closesDown_16 : decode cX10_closesDown 16 = .ok (.isub, 1) := dw_100 wX10_closesDown_c rfl
theorem dX10_closesDown_17 : decode cX10_closesDown 17 = .ok (.iaload, 1) := dw_46 wX10_closesDown_c rfl
theorem dX10_closesDown_18 : decode cX10_closesDown 18 = .ok (.bipush 100, 2) := dw_16 wX10_closesDown_c 100 rfl rfl rfl
theorem dX10_closesDown_20 : decode cX10_closesDown 20 = .ok (.if_icmp .eq 46, 3) := dw_159 wX10_closesDown_c 0 46 rfl rfl rfl
theorem dX10_closesDown_23 : decode cX10_closesDown 23 = .ok (.aload_n 0, 1) := dw_42 wX10_closesDown_c rfl
theorem dX10_closesDown_24 : decode cX10_closesDown 24 = .ok (.getfield 32, 3) := dw_180 wX10_closesDown_c 0 32 rfl rfl
theorem dX10_closesDown_27 : decode cX10_closesDown 27 = .ok (.aload_n 0, 1) := dw_42 wX10_closesDown_c rfl
theorem dX10_closesDown_28 : decode cX10_closesDown 28 = .ok (.getfield 265, 3) := dw_180 wX10_closesDown_c 1 9 rfl rfl
theorem dX10_closesDown_31 : decode cX10_closesDown 31 = .ok (.iconst 1, 1) := dw_4 wX10_closesDown_c rfl
theorem dX10_closesDown_32 : decode cX10_closesDown 32 = .ok (.isub, 1) := dw_100 wX10_closesDown_c rfl
theorem dX10_closesDown_33 : decode cX10_closesDown 33 = .ok (.iaload, 1) := dw_46 wX10_closesDown_c rfl
theorem dX10_closesDown_34 : decode cX10_closesDown 34 = .ok (.iload_n 1, 1) := dw_27 wX10_closesDown_c rfl
theorem dX10_closesDown_35 : decode cX10_closesDown 35 = .ok (.if_icmp .lt 31, 3) := dw_161 wX10_closesDown_c 0 31 rfl rfl rfl
theorem dX10_closesDown_38 : decode cX10_closesDown 38 = .ok (.aload_n 0, 1) := dw_42 wX10_closesDown_c rfl
theorem dX10_closesDown_39 : decode cX10_closesDown 39 = .ok (.aload_n 0, 1) := dw_42 wX10_closesDown_c rfl
theorem dX10_closesDown_40 : decode cX10_closesDown 40 = .ok (.getfield 32, 3) := dw_180 wX10_closesDown_c 0 32 rfl rfl
theorem dX10_closesDown_43 : decode cX10_closesDown 43 = .ok (.aload_n 0, 1) := dw_42 wX10_closesDown_c rfl
theorem dX10_closesDown_44 : decode cX10_closesDown 44 = .ok (.getfield 265, 3) := dw_180 wX10_closesDown_c 1 9 rfl rfl
theorem dX10_closesDown_47 : decode cX10_closesDown 47 = .ok (.iconst 1, 1) := dw_4 wX10_closesDown_c rfl
theorem dX10_closesDown_48 : decode cX10_closesDown 48 = .ok (.isub, 1) := dw_100 wX10_closesDown_c rfl
theorem dX10_closesDown_49 : decode cX10_closesDown 49 = .ok (.iaload, 1) := dw_46 wX10_closesDown_c rfl
theorem dX10_closesDown_50 : decode cX10_closesDown 50 = .ok (.invokevirtual 284, 3) := dw_182 wX10_closesDown_c 1 28 rfl rfl
theorem dX10_closesDown_53 : decode cX10_closesDown 53 = .ok (.aload_n 0, 1) := dw_42 wX10_closesDown_c rfl
theorem dX10_closesDown_54 : decode cX10_closesDown 54 = .ok (.dup, 1) := dw_89 wX10_closesDown_c rfl
theorem dX10_closesDown_55 : decode cX10_closesDown 55 = .ok (.getfield 265, 3) := dw_180 wX10_closesDown_c 1 9 rfl rfl
theorem dX10_closesDown_58 : decode cX10_closesDown 58 = .ok (.iconst 1, 1) := dw_4 wX10_closesDown_c rfl
theorem dX10_closesDown_59 : decode cX10_closesDown 59 = .ok (.isub, 1) := dw_100 wX10_closesDown_c rfl
theorem dX10_closesDown_60 : decode cX10_closesDown 60 = .ok (.putfield 265, 3) := dw_181 wX10_closesDown_c 1 9 rfl rfl
theorem dX10_closesDown_63 : decode cX10_closesDown 63 = .ok (.goto (-63), 3) := dn_167 wX10_closesDown_c 255 193 rfl (by decide)
theorem dX10_closesDown_66 : decode cX10_closesDown 66 = .ok (.return_, 1) := dw_177 wX10_closesDown_c rfl
set_option maxHeartbeats 4000000 in
set_option maxRecDepth 100000 in
theorem t_X10_deep_2 (l : Launch) (dC : Nat → ClassId) (dI : Nat → Nat → Nat) (dA : Nat → ClassId) (L : List Nat) (h : hx_h) (sz : Nat) (x : Nat) (hT : hx_T T_tb L h) (gx : hx_g L h x 10) (qo : Nat) (gqo : hx_g L h qo 56) (f_x_17 : h.2.2 x 17 = some qo) (of : Nat → Int32) (af_qo : h.2.1 qo = of) (op0 : Int32) (f_x_18 : h.2.1 x 18 = op0) : Met l yX10_deep (Cond.code yX10_deep cX10_deep 3 (some .int) :: hx_all) ({ frames := 0, cells := 0, slots := 0, locals := 0 }) (va_Pc [.ref x] (hx_B T_tb (P_ty dA) (dC, dI) vwCl L h sz)) (va_Qi (fun (r : Int32) (u : List Nat × hx_h) => (r.toInt = (hx_dp of op0.toInt.toNat : Int)) ∧ hx_T T_tb u.1 u.2 ∧ hx_S T_tb [] L h u.1 u.2) (hx_E T_tb (P_ty dA) (dC, dI) vwCl (hx_A L sz)) (hx_A L sz)) 0 0 (hx_A L sz) := by
  refine hx_met (lv := [(0, .ref x)]) (by decide +kernel) rfl (Nat.le_of_ble_eq_true rfl) rfl ?_
  intro p e s m below meth c hx hb hml hr hlk hts0 hown hin hsz hW ls hl
  have hts : ∀ w ∈ hx_all, w.before _ s = true := fun w hw => hts0 w (List.mem_cons_of_mem _ hw)
  have hown : s.vm.findClass "SmallCourtModel" = some m.cls := hown
  have hM : hx_S T_tb [] L h L h := hx_S.rf
  have b_op0 := hT.gi gx tt_10 (k := 18) rfl
  rw [f_x_18] at b_op0
  have b_op0 : 0 ≤ op0.toInt ∧ op0.toInt ≤ 128 := b_op0
  refine lv_iconst (v := 0) hx hb dX10_deep_0 ?o0 ?_
  case o0 => decide
  refine lv_istore_n (lv' := [(1, .int (0 : Int32)), (0, .ref x)]) hx hb dX10_deep_1 rfl hl ?o1 rfl (fun ls hl => ?_)
  case o1 => decide
  refine lv_iconst (v := 0) hx hb dX10_deep_2 ?o2 ?_
  case o2 => decide
  refine lv_istore_n (lv' := [(2, .int (0 : Int32)), (1, .int (0 : Int32)), (0, .ref x)]) hx hb dX10_deep_3 rfl hl ?o3 rfl (fun ls hl => ?_)
  case o3 => decide
  have loop4 : ∀ (n4 : Nat) (iv4_1 iv4_2 : Int32) (H : Heap) (locs : List Loc) (hL1 : List Nat) (hl1 : hx_h), 0 ≤ iv4_1.toInt → iv4_1.toInt ≤ 128 → 0 ≤ iv4_2.toInt → iv4_2.toInt ≤ 128 → ((iv4_1.toInt : Int) = (hx_dp of ((iv4_2.toInt : Int)).toNat : Int)) → (iv4_2.toInt ≤ op0.toInt) → (iv4_1.toInt ≤ iv4_2.toInt) → ∀ (ls : Array Slot), 128 - iv4_2.toInt < (n4 : Int) → hx_W T_tb (P_ty dA) (dC, dI) vwCl (hx_A L sz) s.heap hL1 hl1 s H locs → hx_T T_tb hL1 hl1 → hx_S T_tb [] L h hL1 hl1 → lv_has ls 3 [(2, .int iv4_2), (1, .int iv4_1), (0, .ref x)] → W p l e ({ frames := 0, cells := 0, slots := 0, locals := 0 }) s m ([.ref x] : List Value).toArray below meth c H locs 0 0 (MQ below (va_Qi (fun (r : Int32) (u : List Nat × hx_h) => (r.toInt = (hx_dp of op0.toInt.toNat : Int)) ∧ hx_T T_tb u.1 u.2 ∧ hx_S T_tb [] L h u.1 u.2) (hx_E T_tb (P_ty dA) (dC, dI) vwCl (hx_A L sz)) (hx_A L sz)) ([.ref x] : List Value).toArray s 0 0 (hx_A L sz)) (F0 m 4 ls []) := by
    intro n4
    induction n4 with
    | zero => intro iv4_1 iv4_2 H locs hL1 hl1 bliv4_1 buiv4_1 bliv4_2 buiv4_2 vi4_0 vi4_1 vi4_2 ls hn4; exfalso; omega
    | succ n4 ih4 =>
      intro iv4_1 iv4_2 H locs hL1 hl1 bliv4_1 buiv4_1 bliv4_2 buiv4_2 vi4_0 vi4_1 vi4_2 ls hn4 hW hT hM   hl
      refine lv_iload_n hx hb dX10_deep_4 rfl (lv_at hl 0 rfl) ?_
      refine lv_aload_n hx hb dX10_deep_5 rfl (lv_at hl 2 rfl) ?_
      refine hk_geti hx hb hts hC_10 hown hW (gx.S hM) tt_10 18 ?o4 rfl kw_1161 ⟨rfl, rfl, rfl⟩ ((hM.o gx trivial rfl).1.trans f_x_18) dX10_deep_6 ?_
      case o4 => decide
      refine hb_icmp_ge (zx := iv4_2.toInt) (zy := op0.toInt) (tgt := 47) hx hb rfl rfl dX10_deep_9 ?o5 (fun c_1 => ?_) (fun c_1 => ?_)
      case o5 => decide
      · skip
        refine lv_iload_n hx hb dX10_deep_47 rfl (lv_at hl 1 rfl) ?_
        exact hx_reti hx hb hr hlk hW ⟨(by have e0 : iv4_2.toInt = op0.toInt := (by omega); rw [← e0]; exact vi4_0), hT, hM⟩ dX10_deep_48
      · skip
        refine lv_iload_n hx hb dX10_deep_12 rfl (lv_at hl 1 rfl) ?_
        refine lv_aload_n hx hb dX10_deep_13 rfl (lv_at hl 2 rfl) ?_
        refine hk_getr hx hb hts hC_10 hown hW (gx.S hM) tt_10 17 ?o6 rfl kw_1160 ⟨rfl, rfl, rfl⟩ ((hM.o gx trivial rfl).2.trans f_x_17) dX10_deep_14 ?_
        case o6 => decide
        refine lv_iload_n hx hb dX10_deep_17 rfl (lv_at hl 0 rfl) ?_
        refine hx_iald hx hb hW hT (gqo.S hM) tt_56 rfl ⟨?o7, ?o8⟩ dX10_deep_18 (fun x_2 ex_2 lx_2 ux_2 => ?_)
        case o7 => omega
        case o8 => omega
        have ax_2 : x_2 = of iv4_2.toNatClampNeg := ex_2.trans (congrFun (hx_afS hM gqo rfl af_qo) _)
        refine lv_iconst (v := 2) hx hb dX10_deep_19 ?o9 ?_
        case o9 => decide
        refine hb_icmp_eq (zx := x_2.toInt) (zy := 2) (tgt := 34) hx hb rfl ?o10 dX10_deep_20 ?o11 (fun c_3 => ?_) (fun c_3 => ?_)
        case o10 => decide
        case o11 => decide
        · skip
          refine lv_iconst (v := 1) hx hb dX10_deep_34 ?o12 ?_
          case o12 => decide
          refine lv_goto (tgt := 39) hx hb dX10_deep_35 ?o13 ?_
          case o13 => decide
          refine lv_iadd hx hb dX10_deep_39 ?_
          have rg_4 := i32_r iv4_1
          refine lv_topi (fun x_5 ex_5 => ?_)
          have zx_5 : x_5.toInt = iv4_1.toInt + 1 := ?o14
          case o14 =>
            rw [ex_5]
            refine i32_add rfl ?o15 ?o16 ?o17
            case o15 => decide
            case o16 => omega
            case o17 => omega
          refine lv_istore_n (lv' := [(1, .int x_5), (2, .int iv4_2), (0, .ref x)]) hx hb dX10_deep_40 rfl hl ?o18 rfl (fun ls hl => ?_)
          case o18 => decide
          obtain ⟨x_6, ex_6⟩ : ∃ y : Int32, y = iv4_2 + Int32.ofInt 1 := ⟨_, rfl⟩
          have rg_7 := i32_r iv4_2
          have zx_6 : x_6.toInt = iv4_2.toInt + (1) := ?o19
          case o19 =>
            rw [ex_6]
            refine i32_add rfl ?o20 ?o21 ?o22
            case o20 => decide
            case o21 => omega
            case o22 => omega
          refine lv_iinc (v := x_6) (lv' := [(2, .int x_6), (1, .int x_5), (0, .ref x)]) hx hb dX10_deep_41 hl (k := 1) rfl ex_6.symm ?o23 rfl (fun ls hl => ?_)
          case o23 => decide
          refine lv_goto (tgt := 4) hx hb dX10_deep_44 ?o24 ?_
          case o24 => decide
          exact ih4 x_5 x_6 _ _ hL1 hl1 (by omega) (by omega) (by omega) (by omega) (by have q := hx_dp_s (n := iv4_2.toInt) (by omega) ax_2 rfl; rw [zx_6]; first | (rw [if_pos (by omega)] at q; omega) | (rw [if_neg (by omega)] at q; omega)) (by omega) (by omega) ls (by omega) hW hT hM   (lv_sub hl [0, 1, 2] rfl)
        · skip
          refine lv_aload_n hx hb dX10_deep_23 rfl (lv_at hl 2 rfl) ?_
          refine hk_getr hx hb hts hC_10 hown hW (gx.S hM) tt_10 17 ?o25 rfl kw_1160 ⟨rfl, rfl, rfl⟩ ((hM.o gx trivial rfl).2.trans f_x_17) dX10_deep_24 ?_
          case o25 => decide
          refine lv_iload_n hx hb dX10_deep_27 rfl (lv_at hl 0 rfl) ?_
          refine hx_iald hx hb hW hT (gqo.S hM) tt_56 rfl ⟨?o26, ?o27⟩ dX10_deep_28 (fun x_8 ex_8 lx_8 ux_8 => ?_)
          case o26 => omega
          case o27 => omega
          have ax_8 : x_8 = of iv4_2.toNatClampNeg := ex_8.trans (congrFun (hx_afS hM gqo rfl af_qo) _)
          obtain rfl : x_2 = x_8 := ex_2.trans ex_8.symm
          refine lv_bipush (v := 100) hx hb dX10_deep_29 ?o28 ?_
          case o28 => decide
          refine hb_icmp_ne (zx := x_2.toInt) (zy := 100) (tgt := 38) hx hb rfl ?o29 dX10_deep_31 ?o30 (fun c_9 => ?_) (fun c_9 => ?_)
          case o29 => decide
          case o30 => decide
          · skip
            refine lv_iconst (v := 0) hx hb dX10_deep_38 ?o31 ?_
            case o31 => decide
            refine lv_iadd hx hb dX10_deep_39 ?_
            have rg_10 := i32_r iv4_1
            refine lv_topi (fun x_11 ex_11 => ?_)
            have zx_11 : x_11.toInt = iv4_1.toInt + 0 := ?o32
            case o32 =>
              rw [ex_11]
              refine i32_add rfl ?o33 ?o34 ?o35
              case o33 => decide
              case o34 => omega
              case o35 => omega
            refine lv_istore_n (lv' := [(1, .int x_11), (2, .int iv4_2), (0, .ref x)]) hx hb dX10_deep_40 rfl hl ?o36 rfl (fun ls hl => ?_)
            case o36 => decide
            obtain ⟨x_12, ex_12⟩ : ∃ y : Int32, y = iv4_2 + Int32.ofInt 1 := ⟨_, rfl⟩
            have rg_13 := i32_r iv4_2
            have zx_12 : x_12.toInt = iv4_2.toInt + (1) := ?o37
            case o37 =>
              rw [ex_12]
              refine i32_add rfl ?o38 ?o39 ?o40
              case o38 => decide
              case o39 => omega
              case o40 => omega
            refine lv_iinc (v := x_12) (lv' := [(2, .int x_12), (1, .int x_11), (0, .ref x)]) hx hb dX10_deep_41 hl (k := 1) rfl ex_12.symm ?o41 rfl (fun ls hl => ?_)
            case o41 => decide
            refine lv_goto (tgt := 4) hx hb dX10_deep_44 ?o42 ?_
            case o42 => decide
            exact ih4 x_11 x_12 _ _ hL1 hl1 (by omega) (by omega) (by omega) (by omega) (by have q := hx_dp_s (n := iv4_2.toInt) (by omega) ax_2 rfl; rw [zx_12]; first | (rw [if_pos (by omega)] at q; omega) | (rw [if_neg (by omega)] at q; omega)) (by omega) (by omega) ls (by omega) hW hT hM   (lv_sub hl [0, 1, 2] rfl)
          · skip
            refine lv_iconst (v := 1) hx hb dX10_deep_34 ?o43 ?_
            case o43 => decide
            refine lv_goto (tgt := 39) hx hb dX10_deep_35 ?o44 ?_
            case o44 => decide
            refine lv_iadd hx hb dX10_deep_39 ?_
            have rg_14 := i32_r iv4_1
            refine lv_topi (fun x_15 ex_15 => ?_)
            have zx_15 : x_15.toInt = iv4_1.toInt + 1 := ?o45
            case o45 =>
              rw [ex_15]
              refine i32_add rfl ?o46 ?o47 ?o48
              case o46 => decide
              case o47 => omega
              case o48 => omega
            refine lv_istore_n (lv' := [(1, .int x_15), (2, .int iv4_2), (0, .ref x)]) hx hb dX10_deep_40 rfl hl ?o49 rfl (fun ls hl => ?_)
            case o49 => decide
            obtain ⟨x_16, ex_16⟩ : ∃ y : Int32, y = iv4_2 + Int32.ofInt 1 := ⟨_, rfl⟩
            have rg_17 := i32_r iv4_2
            have zx_16 : x_16.toInt = iv4_2.toInt + (1) := ?o50
            case o50 =>
              rw [ex_16]
              refine i32_add rfl ?o51 ?o52 ?o53
              case o51 => decide
              case o52 => omega
              case o53 => omega
            refine lv_iinc (v := x_16) (lv' := [(2, .int x_16), (1, .int x_15), (0, .ref x)]) hx hb dX10_deep_41 hl (k := 1) rfl ex_16.symm ?o54 rfl (fun ls hl => ?_)
            case o54 => decide
            refine lv_goto (tgt := 4) hx hb dX10_deep_44 ?o55 ?_
            case o55 => decide
            exact ih4 x_15 x_16 _ _ hL1 hl1 (by omega) (by omega) (by omega) (by omega) (by have q := hx_dp_s (n := iv4_2.toInt) (by omega) ax_2 rfl; rw [zx_16]; first | (rw [if_pos (by omega)] at q; omega) | (rw [if_neg (by omega)] at q; omega)) (by omega) (by omega) ls (by omega) hW hT hM   (lv_sub hl [0, 1, 2] rfl)
  have zk_0 : (0 : Int32).toInt = 0 := ?o56
  case o56 => decide
  have zk_0 : (0 : Int32).toInt = 0 := ?o57
  case o57 => decide
  refine loop4 129 (0 : Int32) (0 : Int32) _ _ L h ?o58 ?o59 ?o60 ?o61 (by simp [hx_dp]) ?o62 ?o63 ls ?o64 hW hT hM   hl
  case o58 => decide
  case o59 => decide
  case o60 => decide
  case o61 => decide
  case o62 => omega
  case o63 => omega
  case o64 => omega
end
section
def wNX10_begins : Nat := 4167474028348923249217084479837142356633413561201143994539681045904487275942966070942482958648192309341094862420626161525291959365207935341654719776748978842217046461656180701054486706979843734601075966966019815978430898279353009925284476458
theorem wX10_begins_c : hz_cd cX10_begins wNX10_begins 100 := ⟨by decide +kernel, by decide +kernel⟩
theorem dX10_begins_0 : decode cX10_begins 0 = .ok (.aload_n 0, 1) := dw_42 wX10_begins_c rfl
theorem dX10_begins_1 : decode cX10_begins 1 = .ok (.invokevirtual 248, 3) := dw_182 wX10_begins_c 0 248 rfl rfl
theorem dX10_begins_4 : decode cX10_begins 4 = .ok (.istore_n 1, 1) := dw_60 wX10_begins_c rfl
theorem dX10_begins_5 : decode cX10_begins 5 = .ok (.aload_n 0, 1) := dw_42 wX10_begins_c rfl
theorem dX10_begins_6 : decode cX10_begins 6 = .ok (.invokevirtual 277, 3) := dw_182 wX10_begins_c 1 21 rfl rfl
theorem dX10_begins_9 : decode cX10_begins 9 = .ok (.istore_n 2, 1) := dw_61 wX10_begins_c rfl
theorem dX10_begins_10 : decode cX10_begins 10 = .ok (.iload_n 1, 1) := dw_27 wX10_begins_c rfl
theorem dX10_begins_11 : decode cX10_begins 11 = .ok (.bipush 40, 2) := dw_16 wX10_begins_c 40 rfl rfl rfl
theorem dX10_begins_13 : decode cX10_begins 13 = .ok (.if_icmp .eq 14, 3) := dw_159 wX10_begins_c 0 14 rfl rfl rfl
theorem dX10_begins_16 : decode cX10_begins 16 = .ok (.iload_n 2, 1) := dw_28 wX10_begins_c rfl
theorem dX10_begins_17 : decode cX10_begins 17 = .ok (.iconst 2, 1) := dw_5 wX10_begins_c rfl
theorem dX10_begins_18 : decode cX10_begins 18 = .ok (.if_icmp .eq 9, 3) := dw_159 wX10_begins_c 0 9 rfl rfl rfl
theorem dX10_begins_21 : decode cX10_begins 21 = .ok (.aload_n 0, 1) := dw_42 wX10_begins_c rfl
theorem dX10_begins_22 : decode cX10_begins 22 = .ok (.iload_n 2, 1) := dw_28 wX10_begins_c rfl
theorem dX10_begins_23 : decode cX10_begins 23 = .ok (.invokevirtual 290, 3) := dw_182 wX10_begins_c 1 34 rfl rfl
theorem dX10_begins_26 : decode cX10_begins 26 = .ok (.ireturn, 1) := dw_172 wX10_begins_c rfl
theorem dX10_begins_27 : decode cX10_begins 27 = .ok (.aload_n 0, 1) := dw_42 wX10_begins_c rfl
theorem dX10_begins_28 : decode cX10_begins 28 = .ok (.invokevirtual 293, 3) := dw_182 wX10_begins_c 1 37 rfl rfl
theorem dX10_begins_31 : decode cX10_begins 31 = .ok (.bipush 8, 2) := dw_16 wX10_begins_c 8 rfl rfl rfl
theorem dX10_begins_33 : decode cX10_begins 33 = .ok (.if_icmp .ne 13, 3) := dw_160 wX10_begins_c 0 13 rfl rfl rfl
theorem dX10_begins_36 : decode cX10_begins 36 = .ok (.aload_n 0, 1) := dw_42 wX10_begins_c rfl
theorem dX10_begins_37 : decode cX10_begins 37 = .ok (.iconst 3, 1) := dw_6 wX10_begins_c rfl
theorem dX10_begins_38 : decode cX10_begins 38 = .ok (.aload_n 0, 1) := dw_42 wX10_begins_c rfl
theorem dX10_begins_39 : decode cX10_begins 39 = .ok (.getfield 245, 3) := dw_180 wX10_begins_c 0 245 rfl rfl
theorem dX10_begins_42 : decode cX10_begins 42 = .ok (.invokevirtual 255, 3) := dw_182 wX10_begins_c 0 255 rfl rfl
theorem dX10_begins_45 : decode cX10_begins 45 = .ok (.ireturn, 1) := dw_172 wX10_begins_c rfl
theorem dX10_begins_46 : decode cX10_begins 46 = .ok (.aload_n 0, 1) := dw_42 wX10_begins_c rfl
theorem dX10_begins_47 : decode cX10_begins 47 = .ok (.getfield 32, 3) := dw_180 wX10_begins_c 0 32 rfl rfl
theorem dX10_begins_50 : decode cX10_begins 50 = .ok (.aload_n 0, 1) := dw_42 wX10_begins_c rfl
theorem dX10_begins_51 : decode cX10_begins 51 = .ok (.getfield 265, 3) := dw_180 wX10_begins_c 1 9 rfl rfl
theorem dX10_begins_54 : decode cX10_begins 54 = .ok (.iload_n 1, 1) := dw_27 wX10_begins_c rfl
theorem dX10_begins_55 : decode cX10_begins 55 = .ok (.bipush 40, 2) := dw_16 wX10_begins_c 40 rfl rfl rfl
theorem dX10_begins_57 : decode cX10_begins 57 = .ok (.if_icmp .ne 8, 3) := dw_160 wX10_begins_c 0 8 rfl rfl rfl
theorem dX10_begins_60 : decode cX10_begins 60 = .ok (.bipush 100, 2) := dw_16 wX10_begins_c 100 rfl rfl rfl
theorem dX10_begins_62 : decode cX10_begins 62 = .ok (.goto 4, 3) := dw_167 wX10_begins_c 0 4 rfl rfl rfl
theorem dX10_begins_65 : decode cX10_begins 65 = .ok (.iconst 2, 1) := dw_5 wX10_begins_c rfl
theorem dX10_begins_66 : decode cX10_begins 66 = .ok (.iastore, 1) := dw_79 wX10_begins_c rfl
theorem dX10_begins_67 : decode cX10_begins 67 = .ok (.aload_n 0, 1) := dw_42 wX10_begins_c rfl
theorem dX10_begins_68 : decode cX10_begins 68 = .ok (.dup, 1) := dw_89 wX10_begins_c rfl
theorem dX10_begins_69 : decode cX10_begins 69 = .ok (.getfield 265, 3) := dw_180 wX10_begins_c 1 9 rfl rfl
theorem dX10_begins_72 : decode cX10_begins 72 = .ok (.iconst 1, 1) := dw_4 wX10_begins_c rfl
theorem dX10_begins_73 : decode cX10_begins 73 = .ok (.iadd, 1) := dw_96 wX10_begins_c rfl
theorem dX10_begins_74 : decode cX10_begins 74 = .ok (.putfield 265, 3) := dw_181 wX10_begins_c 1 9 rfl rfl
theorem dX10_begins_77 : decode cX10_begins 77 = .ok (.aload_n 0, 1) := dw_42 wX10_begins_c rfl
theorem dX10_begins_78 : decode cX10_begins 78 = .ok (.dup, 1) := dw_89 wX10_begins_c rfl
theorem dX10_begins_79 : decode cX10_begins 79 = .ok (.getfield 245, 3) := dw_180 wX10_begins_c 0 245 rfl rfl
theorem dX10_begins_82 : decode cX10_begins 82 = .ok (.iload_n 1, 1) := dw_27 wX10_begins_c rfl
theorem dX10_begins_83 : decode cX10_begins 83 = .ok (.bipush 40, 2) := dw_16 wX10_begins_c 40 rfl rfl rfl
theorem dX10_begins_85 : decode cX10_begins 85 = .ok (.if_icmp .ne 7, 3) := dw_160 wX10_begins_c 0 7 rfl rfl rfl
theorem dX10_begins_88 : decode cX10_begins 88 = .ok (.iconst 1, 1) := dw_4 wX10_begins_c rfl
theorem dX10_begins_89 : decode cX10_begins 89 = .ok (.goto 4, 3) := dw_167 wX10_begins_c 0 4 rfl rfl rfl
theorem dX10_begins_92 : decode cX10_begins 92 = .ok (.iconst 3, 1) := dw_6 wX10_begins_c rfl
theorem dX10_begins_93 : decode cX10_begins 93 = .ok (.iadd, 1) := dw_96 wX10_begins_c rfl
theorem dX10_begins_94 : decode cX10_begins 94 = .ok (.putfield 245, 3) := dw_181 wX10_begins_c 0 245 rfl rfl
theorem dX10_begins_97 : decode cX10_begins 97 = .ok (.goto (-97), 3) := dn_167 wX10_begins_c 255 159 rfl (by decide)
theorem dX10_clears_0 : decode cX10_clears 0 = .ok (.aload_n 0, 1) := by decide +kernel
theorem dX10_clears_1 : decode cX10_clears 1 = .ok (.iconst 0, 1) := by decide +kernel
theorem dX10_clears_2 : decode cX10_clears 2 = .ok (.putfield 262, 3) := by decide +kernel
theorem dX10_clears_5 : decode cX10_clears 5 = .ok (.aload_n 0, 1) := by decide +kernel
theorem dX10_clears_6 : decode cX10_clears 6 = .ok (.iconst 0, 1) := by decide +kernel
theorem dX10_clears_7 : decode cX10_clears 7 = .ok (.putfield 274, 3) := by decide +kernel
theorem dX10_clears_10 : decode cX10_clears 10 = .ok (.aload_n 0, 1) := by decide +kernel
theorem dX10_clears_11 : decode cX10_clears 11 = .ok (.iconst 0, 1) := by decide +kernel
theorem dX10_clears_12 : decode cX10_clears 12 = .ok (.putfield 265, 3) := by decide +kernel
theorem dX10_clears_15 : decode cX10_clears 15 = .ok (.return_, 1) := by decide +kernel
def wNX10_either : Nat := 40385582389748521173009336014017780105631589523021847658813338353589920018973842847086778061106445990565897741815081504448210396459163157967633909736768017898701703925261066152190235863630919309776231145903899479182308831148865443709767773822868772050166930959169575218732756180613723548966011637290215890355401683626045131011957401535888170487522445264308964003292318652377517485903745344700533503032888897493954055886344038692394
theorem wX10_either_c : hz_cd cX10_either wNX10_either 179 := ⟨by decide +kernel, by decide +kernel⟩
theorem dX10_either_0 : decode cX10_either 0 = .ok (.aload_n 0, 1) := dw_42 wX10_either_c rfl
theorem dX10_either_1 : decode cX10_either 1 = .ok (.invokevirtual 218, 3) := dw_182 wX10_either_c 0 218 rfl rfl
theorem dX10_either_4 : decode cX10_either 4 = .ok (.iconst 1, 1) := dw_4 wX10_either_c rfl
theorem dX10_either_5 : decode cX10_either 5 = .ok (.istore_n 1, 1) := dw_60 wX10_either_c rfl
theorem dX10_either_6 : decode cX10_either 6 = .ok (.iload_n 1, 1) := dw_27 wX10_either_c rfl
theorem dX10_either_7 : decode cX10_either 7 = .ok (.ifCond .eq 12, 3) := dw_153 wX10_either_c 0 12 rfl rfl rfl
theorem dX10_either_10 : decode cX10_either 10 = .ok (.aload_n 0, 1) := dw_42 wX10_either_c rfl
theorem dX10_either_11 : decode cX10_either 11 = .ok (.invokevirtual 296, 3) := dw_182 wX10_either_c 1 40 rfl rfl
theorem dX10_either_14 : decode cX10_either 14 = .ok (.ifCond .ne 5, 3) := dw_154 wX10_either_c 0 5 rfl rfl rfl
theorem dX10_either_17 : decode cX10_either 17 = .ok (.iconst 0, 1) := dw_3 wX10_either_c rfl
theorem dX10_either_18 : decode cX10_either 18 = .ok (.ireturn, 1) := dw_172 wX10_either_c rfl
theorem dX10_either_19 : decode cX10_either 19 = .ok (.iload_n 1, 1) := dw_27 wX10_either_c rfl
theorem dX10_either_20 : decode cX10_either 20 = .ok (.ifCond .eq 7, 3) := dw_153 wX10_either_c 0 7 rfl rfl rfl
theorem dX10_either_23 : decode cX10_either 23 = .ok (.aload_n 0, 1) := dw_42 wX10_either_c rfl
theorem dX10_either_24 : decode cX10_either 24 = .ok (.invokevirtual 300, 3) := dw_182 wX10_either_c 1 44 rfl rfl
theorem dX10_either_27 : decode cX10_either 27 = .ok (.iconst 0, 1) := dw_3 wX10_either_c rfl
theorem dX10_either_28 : decode cX10_either 28 = .ok (.istore_n 1, 1) := dw_60 wX10_either_c rfl
theorem dX10_either_29 : decode cX10_either 29 = .ok (.aload_n 0, 1) := dw_42 wX10_either_c rfl
theorem dX10_either_30 : decode cX10_either 30 = .ok (.invokevirtual 248, 3) := dw_182 wX10_either_c 0 248 rfl rfl
theorem dX10_either_33 : decode cX10_either 33 = .ok (.istore_n 2, 1) := dw_61 wX10_either_c rfl
theorem dX10_either_34 : decode cX10_either 34 = .ok (.aload_n 0, 1) := dw_42 wX10_either_c rfl
theorem dX10_either_35 : decode cX10_either 35 = .ok (.invokevirtual 277, 3) := dw_182 wX10_either_c 1 21 rfl rfl
theorem dX10_either_38 : decode cX10_either 38 = .ok (.istore_n 3, 1) := dw_62 wX10_either_c rfl
theorem dX10_either_39 : decode cX10_either 39 = .ok (.iload_n 3, 1) := dw_29 wX10_either_c rfl
theorem dX10_either_40 : decode cX10_either 40 = .ok (.iconst 1, 1) := dw_4 wX10_either_c rfl
theorem dX10_either_41 : decode cX10_either 41 = .ok (.if_icmp .eq 7, 3) := dw_159 wX10_either_c 0 7 rfl rfl rfl
theorem dX10_either_44 : decode cX10_either 44 = .ok (.iload_n 3, 1) := dw_29 wX10_either_c rfl
theorem dX10_either_45 : decode cX10_either 45 = .ok (.ifCond .ne 46, 3) := dw_154 wX10_either_c 0 46 rfl rfl rfl
theorem dX10_either_48 : decode cX10_either 48 = .ok (.aload_n 0, 1) := dw_42 wX10_either_c rfl
theorem dX10_either_49 : decode cX10_either 49 = .ok (.iload_n 3, 1) := dw_29 wX10_either_c rfl
theorem dX10_either_50 : decode cX10_either 50 = .ok (.invokevirtual 303, 3) := dw_182 wX10_either_c 1 47 rfl rfl
theorem dX10_either_53 : decode cX10_either 53 = .ok (.aload_n 0, 1) := dw_42 wX10_either_c rfl
theorem dX10_either_54 : decode cX10_either 54 = .ok (.getfield 32, 3) := dw_180 wX10_either_c 0 32 rfl rfl
theorem dX10_either_57 : decode cX10_either 57 = .ok (.aload_n 0, 1) := dw_42 wX10_either_c rfl
theorem dX10_either_58 : decode cX10_either 58 = .ok (.getfield 265, 3) := dw_180 wX10_either_c 1 9 rfl rfl
theorem dX10_either_61 : decode cX10_either 61 = .ok (.iload_n 3, 1) := dw_29 wX10_either_c rfl
theorem dX10_either_62 : decode cX10_either 62 = .ok (.iastore, 1) := dw_79 wX10_either_c rfl
theorem dX10_either_63 : decode cX10_either 63 = .ok (.aload_n 0, 1) := dw_42 wX10_either_c rfl
theorem dX10_either_64 : decode cX10_either 64 = .ok (.dup, 1) := dw_89 wX10_either_c rfl
theorem dX10_either_65 : decode cX10_either 65 = .ok (.getfield 265, 3) := dw_180 wX10_either_c 1 9 rfl rfl
theorem dX10_either_68 : decode cX10_either 68 = .ok (.iconst 1, 1) := dw_4 wX10_either_c rfl
theorem dX10_either_69 : decode cX10_either 69 = .ok (.iadd, 1) := dw_96 wX10_either_c rfl
theorem dX10_either_70 : decode cX10_either 70 = .ok (.putfield 265, 3) := dw_181 wX10_either_c 1 9 rfl rfl
theorem dX10_either_73 : decode cX10_either 73 = .ok (.aload_n 0, 1) := dw_42 wX10_either_c rfl
theorem dX10_either_74 : decode cX10_either 74 = .ok (.dup, 1) := dw_89 wX10_either_c rfl
theorem dX10_either_75 : decode cX10_either 75 = .ok (.getfield 245, 3) := dw_180 wX10_either_c 0 245 rfl rfl
theorem dX10_either_78 : decode cX10_either 78 = .ok (.aload_n 0, 1) := dw_42 wX10_either_c rfl
theorem dX10_either_79 : decode cX10_either 79 = .ok (.getfield 252, 3) := dw_180 wX10_either_c 0 252 rfl rfl
theorem dX10_either_82 : decode cX10_either 82 = .ok (.iadd, 1) := dw_96 wX10_either_c rfl
theorem dX10_either_83 : decode cX10_either 83 = .ok (.putfield 245, 3) := dw_181 wX10_either_c 0 245 rfl rfl
theorem dX10_either_86 : decode cX10_either 86 = .ok (.iconst 1, 1) := dw_4 wX10_either_c rfl
theorem dX10_either_87 : decode cX10_either 87 = .ok (.istore_n 1, 1) := dw_60 wX10_either_c rfl
theorem dX10_either_88 : decode cX10_either 88 = .ok (.goto 88, 3) := dw_167 wX10_either_c 0 88 rfl rfl rfl
theorem dX10_either_91 : decode cX10_either 91 = .ok (.iload_n 2, 1) := dw_28 wX10_either_c rfl
theorem dX10_either_92 : decode cX10_either 92 = .ok (.bipush 41, 2) := dw_16 wX10_either_c 41 rfl rfl rfl
theorem dX10_either_94 : decode cX10_either 94 = .ok (.if_icmp .ne 52, 3) := dw_160 wX10_either_c 0 52 rfl rfl rfl
theorem dX10_either_97 : decode cX10_either 97 = .ok (.aload_n 0, 1) := dw_42 wX10_either_c rfl
theorem dX10_either_98 : decode cX10_either 98 = .ok (.iconst 0, 1) := dw_3 wX10_either_c rfl
theorem dX10_either_99 : decode cX10_either 99 = .ok (.invokevirtual 303, 3) := dw_182 wX10_either_c 1 47 rfl rfl
theorem dX10_either_102 : decode cX10_either 102 = .ok (.aload_n 0, 1) := dw_42 wX10_either_c rfl
theorem dX10_either_103 : decode cX10_either 103 = .ok (.getfield 265, 3) := dw_180 wX10_either_c 1 9 rfl rfl
theorem dX10_either_106 : decode cX10_either 106 = .ok (.ifCond .ne 13, 3) := dw_154 wX10_either_c 0 13 rfl rfl rfl
theorem dX10_either_109 : decode cX10_either 109 = .ok (.aload_n 0, 1) := dw_42 wX10_either_c rfl
theorem dX10_either_110 : decode cX10_either 110 = .ok (.iconst 0, 1) := dw_3 wX10_either_c rfl
theorem dX10_either_111 : decode cX10_either 111 = .ok (.aload_n 0, 1) := dw_42 wX10_either_c rfl
theorem dX10_either_112 : decode cX10_either 112 = .ok (.getfield 245, 3) := dw_180 wX10_either_c 0 245 rfl rfl
theorem dX10_either_115 : decode cX10_either 115 = .ok (.invokevirtual 255, 3) := dw_182 wX10_either_c 0 255 rfl rfl
theorem dX10_either_118 : decode cX10_either 118 = .ok (.ireturn, 1) := dw_172 wX10_either_c rfl
theorem dX10_either_119 : decode cX10_either 119 = .ok (.aload_n 0, 1) := dw_42 wX10_either_c rfl
theorem dX10_either_120 : decode cX10_either 120 = .ok (.dup, 1) := dw_89 wX10_either_c rfl
theorem dX10_either_121 : decode cX10_either 121 = .ok (.getfield 265, 3) := dw_180 wX10_either_c 1 9 rfl rfl
theorem dX10_either_124 : decode cX10_either 124 = .ok (.iconst 1, 1) := dw_4 wX10_either_c rfl
theorem dX10_either_125 : decode cX10_either 125 = .ok (.isub, 1) := dw_100 wX10_either_c rfl
theorem dX10_either_126 : decode cX10_either 126 = .ok (.putfield 265, 3) := dw_181 wX10_either_c 1 9 rfl rfl
theorem dX10_either_129 : decode cX10_either 129 = .ok (.aload_n 0, 1) := dw_42 wX10_either_c rfl
theorem dX10_either_130 : decode cX10_either 130 = .ok (.dup, 1) := dw_89 wX10_either_c rfl
theorem dX10_either_131 : decode cX10_either 131 = .ok (.getfield 245, 3) := dw_180 wX10_either_c 0 245 rfl rfl
theorem dX10_either_134 : decode cX10_either 134 = .ok (.iconst 1, 1) := dw_4 wX10_either_c rfl
theorem dX10_either_135 : decode cX10_either 135 = .ok (.iadd, 1) := dw_96 wX10_either_c rfl
theorem dX10_either_136 : decode cX10_either 136 = .ok (.putfield 245, 3) := dw_181 wX10_either_c 0 245 rfl rfl
theorem dX10_either_139 : decode cX10_either 139 = .ok (.aload_n 0, 1) := dw_42 wX10_either_c rfl
theorem dX10_either_140 : decode cX10_either 140 = .ok (.invokevirtual 300, 3) := dw_182 wX10_either_c 1 44 rfl rfl
theorem dX10_either_143 : decode cX10_either 143 = .ok (.goto 33, 3) := dw_167 wX10_either_c 0 33 rfl rfl rfl
theorem dX10_either_146 : decode cX10_either 146 = .ok (.aload_n 0, 1) := dw_42 wX10_either_c rfl
theorem dX10_either_147 : decode cX10_either 147 = .ok (.iconst 0, 1) := dw_3 wX10_either_c rfl
theorem dX10_either_148 : decode cX10_either 148 = .ok (.invokevirtual 303, 3) := dw_182 wX10_either_c 1 47 rfl rfl
theorem dX10_either_151 : decode cX10_either 151 = .ok (.aload_n 0, 1) := dw_42 wX10_either_c rfl
theorem dX10_either_152 : decode cX10_either 152 = .ok (.getfield 265, 3) := dw_180 wX10_either_c 1 9 rfl rfl
theorem dX10_either_155 : decode cX10_either 155 = .ok (.ifCond .eq 15, 3) := dw_153 wX10_either_c 0 15 rfl rfl rfl
theorem dX10_either_158 : decode cX10_either 158 = .ok (.aload_n 0, 1) := dw_42 wX10_either_c rfl
theorem dX10_either_159 : decode cX10_either 159 = .ok (.iconst 0, 1) := dw_3 wX10_either_c rfl
theorem dX10_either_160 : decode cX10_either 160 = .ok (.aload_n 0, 1) := dw_42 wX10_either_c rfl
theorem dX10_either_161 : decode cX10_either 161 = .ok (.getfield 245, 3) := dw_180 wX10_either_c 0 245 rfl rfl
theorem dX10_either_164 : decode cX10_either 164 = .ok (.invokevirtual 255, 3) := dw_182 wX10_either_c 0 255 rfl rfl
theorem dX10_either_167 : decode cX10_either 167 = .ok (.ifCond .eq 7, 3) := dw_153 wX10_either_c 0 7 rfl rfl rfl
theorem dX10_either_170 : decode cX10_either 170 = .ok (.iconst 1, 1) := dw_4 wX10_either_c rfl
theorem dX10_either_171 : decode cX10_either 171 = .ok (.goto 4, 3) := dw_167 wX10_either_c 0 4 rfl rfl rfl
theorem dX10_either_174 : decode cX10_either 174 = .ok (.iconst 0, 1) := dw_3 wX10_either_c rfl
theorem dX10_either_175 : decode cX10_either 175 = .ok (.ireturn, 1) := dw_172 wX10_either_c rfl
theorem dX10_either_176 : decode cX10_either 176 = .ok (.goto (-170), 3) := dn_167 wX10_either_c 255 86 rfl (by decide)
end
section
theorem dX10_withoutProof_0 : decode cX10_withoutProof 0 = .ok (.aload_n 0, 1) := by decide +kernel
theorem dX10_withoutProof_1 : decode cX10_withoutProof 1 = .ok (.iconst 0, 1) := by decide +kernel
theorem dX10_withoutProof_2 : decode cX10_withoutProof 2 = .ok (.iconst 2, 1) := by decide +kernel
theorem dX10_withoutProof_3 : decode cX10_withoutProof 3 = .ok (.iconst 1, 1) := by decide +kernel
theorem dX10_withoutProof_4 : decode cX10_withoutProof 4 = .ok (.invokestatic 280, 3) := by decide +kernel
theorem dX10_withoutProof_7 : decode cX10_withoutProof 7 = .ok (.invokevirtual 284, 3) := by decide +kernel
theorem dX10_withoutProof_10 : decode cX10_withoutProof 10 = .ok (.aload_n 0, 1) := by decide +kernel
theorem dX10_withoutProof_11 : decode cX10_withoutProof 11 = .ok (.iconst 1, 1) := by decide +kernel
theorem dX10_withoutProof_12 : decode cX10_withoutProof 12 = .ok (.iconst 2, 1) := by decide +kernel
theorem dX10_withoutProof_13 : decode cX10_withoutProof 13 = .ok (.iconst 0, 1) := by decide +kernel
theorem dX10_withoutProof_14 : decode cX10_withoutProof 14 = .ok (.invokestatic 280, 3) := by decide +kernel
theorem dX10_withoutProof_17 : decode cX10_withoutProof 17 = .ok (.invokevirtual 284, 3) := by decide +kernel
theorem dX10_withoutProof_20 : decode cX10_withoutProof 20 = .ok (.aload_n 0, 1) := by decide +kernel
theorem dX10_withoutProof_21 : decode cX10_withoutProof 21 = .ok (.iconst 1, 1) := by decide +kernel
theorem dX10_withoutProof_22 : decode cX10_withoutProof 22 = .ok (.invokevirtual 284, 3) := by decide +kernel
theorem dX10_withoutProof_25 : decode cX10_withoutProof 25 = .ok (.return_, 1) := by decide +kernel
def wNX10_keepsProof : Nat := 1631967560276263620293977103496424364579209807650050609803477780298071790849547807158689235932806332360471594
theorem wX10_keepsProof_c : hz_cd cX10_keepsProof wNX10_keepsProof 45 := ⟨by decide +kernel, by decide +kernel⟩
theorem dX10_keepsProof_0 : decode cX10_keepsProof 0 = .ok (.aload_n 0, 1) := dw_42 wX10_keepsProof_c rfl
theorem dX10_keepsProof_1 : decode cX10_keepsProof 1 = .ok (.getfield 16, 3) := dw_180 wX10_keepsProof_c 0 16 rfl rfl
theorem dX10_keepsProof_4 : decode cX10_keepsProof 4 = .ok (.iload_n 1, 1) := dw_27 wX10_keepsProof_c rfl
theorem dX10_keepsProof_5 : decode cX10_keepsProof 5 = .ok (.aload_n 0, 1) := dw_42 wX10_keepsProof_c rfl
theorem dX10_keepsProof_6 : decode cX10_keepsProof 6 = .ok (.getfield 262, 3) := dw_180 wX10_keepsProof_c 1 6 rfl rfl
theorem dX10_keepsProof_9 : decode cX10_keepsProof 9 = .ok (.iastore, 1) := dw_79 wX10_keepsProof_c rfl
theorem dX10_keepsProof_10 : decode cX10_keepsProof 10 = .ok (.iconst 0, 1) := dw_3 wX10_keepsProof_c rfl
theorem dX10_keepsProof_11 : decode cX10_keepsProof 11 = .ok (.istore_n 2, 1) := dw_61 wX10_keepsProof_c rfl
theorem dX10_keepsProof_12 : decode cX10_keepsProof 12 = .ok (.iload_n 2, 1) := dw_28 wX10_keepsProof_c rfl
theorem dX10_keepsProof_13 : decode cX10_keepsProof 13 = .ok (.aload_n 0, 1) := dw_42 wX10_keepsProof_c rfl
theorem dX10_keepsProof_14 : decode cX10_keepsProof 14 = .ok (.getfield 262, 3) := dw_180 wX10_keepsProof_c 1 6 rfl rfl
theorem dX10_keepsProof_17 : decode cX10_keepsProof 17 = .ok (.if_icmp .ge 27, 3) := dw_162 wX10_keepsProof_c 0 27 rfl rfl rfl
theorem dX10_keepsProof_20 : decode cX10_keepsProof 20 = .ok (.aload_n 0, 1) := dw_42 wX10_keepsProof_c rfl
theorem dX10_keepsProof_21 : decode cX10_keepsProof 21 = .ok (.getfield 19, 3) := dw_180 wX10_keepsProof_c 0 19 rfl rfl
theorem dX10_keepsProof_24 : decode cX10_keepsProof 24 = .ok (.sipush 128, 3) := dw_17 wX10_keepsProof_c 0 128 rfl rfl rfl
theorem dX10_keepsProof_27 : decode cX10_keepsProof 27 = .ok (.iload_n 1, 1) := dw_27 wX10_keepsProof_c rfl
theorem dX10_keepsProof_28 : decode cX10_keepsProof 28 = .ok (.imul, 1) := dw_104 wX10_keepsProof_c rfl
theorem dX10_keepsProof_29 : decode cX10_keepsProof 29 = .ok (.iload_n 2, 1) := dw_28 wX10_keepsProof_c rfl
theorem dX10_keepsProof_30 : decode cX10_keepsProof 30 = .ok (.iadd, 1) := dw_96 wX10_keepsProof_c rfl
theorem dX10_keepsProof_31 : decode cX10_keepsProof 31 = .ok (.aload_n 0, 1) := dw_42 wX10_keepsProof_c rfl
theorem dX10_keepsProof_32 : decode cX10_keepsProof 32 = .ok (.getfield 29, 3) := dw_180 wX10_keepsProof_c 0 29 rfl rfl
theorem dX10_keepsProof_35 : decode cX10_keepsProof 35 = .ok (.iload_n 2, 1) := dw_28 wX10_keepsProof_c rfl
theorem dX10_keepsProof_36 : decode cX10_keepsProof 36 = .ok (.iaload, 1) := dw_46 wX10_keepsProof_c rfl
theorem dX10_keepsProof_37 : decode cX10_keepsProof 37 = .ok (.iastore, 1) := dw_79 wX10_keepsProof_c rfl
theorem dX10_keepsProof_38 : decode cX10_keepsProof 38 = .ok (.iinc 2 1, 3) := dw_132 wX10_keepsProof_c 2 1 rfl rfl rfl
theorem dX10_keepsProof_41 : decode cX10_keepsProof 41 = .ok (.goto (-29), 3) := dn_167 wX10_keepsProof_c 255 227 rfl (by decide)
theorem dX10_keepsProof_44 : decode cX10_keepsProof 44 = .ok (.return_, 1) := dw_177 wX10_keepsProof_c rfl
set_option maxHeartbeats 4000000 in
set_option maxRecDepth 100000 in
theorem t_X10_keepsProof (l : Launch) (dC : Nat → ClassId) (dI : Nat → Nat → Nat) (dA : Nat → ClassId) (L : List Nat) (h : hx_h) (sz : Nat) (x : Nat) (i1 : Int32) (hT : hx_T T_tb L h) (gx : hx_g L h x 10) (qs : Nat) (gqs : hx_g L h qs 55) (f_x_15 : h.2.2 x 15 = some qs) (qn : Nat) (gqn : hx_g L h qn 51) (f_x_4 : h.2.2 x 4 = some qn) (qp : Nat) (gqp : hx_g L h qp 52) (f_x_5 : h.2.2 x 5 = some qp) (sf : Nat → Int32) (af_qs : h.2.1 qs = sf) (psf : Nat → Int32) (af_qn : h.2.1 qn = psf) (prf : Nat → Int32) (af_qp : h.2.1 qp = prf) (st0 : Int32) (f_x_14 : h.2.1 x 14 = st0) (hi1 : 0 ≤ i1.toInt ∧ i1.toInt ≤ 8) : Met l yX10_keepsProof (Cond.code yX10_keepsProof cX10_keepsProof 3 none :: hx_all) ({ frames := 0, cells := 0, slots := 0, locals := 0 }) (va_Pc [.ref x, .int i1] (hx_B T_tb (P_ty dA) (dC, dI) vwCl L h sz)) (va_Qv (fun (u : List Nat × hx_h) => (∃ (psf1 : Nat → Int32) (prf1 : Nat → Int32), u.2.2.1 qn = psf1 ∧ u.2.2.1 qp = prf1 ∧ (psf1 = hx_up psf i1.toNatClampNeg st0 ∧ hx_kp sf prf prf1 i1.toInt st0.toInt)) ∧ hx_T T_tb u.1 u.2 ∧ hx_S T_tb [(51, 0), (52, 0)] L h u.1 u.2) (hx_E T_tb (P_ty dA) (dC, dI) vwCl (hx_A L sz)) (hx_A L sz)) 0 0 (hx_A L sz) := by
  refine hx_met (lv := [(0, .ref x), (1, .int i1)]) (by decide +kernel) rfl (Nat.le_of_ble_eq_true rfl) rfl ?_
  intro p e s m below meth c hx hb hml hr hlk hts0 hown hin hsz hW ls hl
  have hts : ∀ w ∈ hx_all, w.before _ s = true := fun w hw => hts0 w (List.mem_cons_of_mem _ hw)
  have hown : s.vm.findClass "SmallCourtModel" = some m.cls := hown
  have hM : hx_S T_tb [(51, 0), (52, 0)] L h L h := hx_S.rf
  have b_st0 := hT.gi gx tt_10 (k := 14) rfl
  rw [f_x_14] at b_st0
  have b_st0 : 0 ≤ st0.toInt ∧ st0.toInt ≤ 128 := b_st0
  refine lv_aload_n hx hb dX10_keepsProof_0 rfl (lv_at hl 0 rfl) ?_
  refine hk_getr hx hb hts hC_10 hown hW (gx.S hM) tt_10 4 ?o0 rfl kw_1147 ⟨rfl, rfl, rfl⟩ ((hM.o gx trivial rfl).2.trans f_x_4) dX10_keepsProof_1 ?_
  case o0 => decide
  refine lv_iload_n hx hb dX10_keepsProof_4 rfl (lv_at hl 1 rfl) ?_
  refine lv_aload_n hx hb dX10_keepsProof_5 rfl (lv_at hl 0 rfl) ?_
  refine hk_geti hx hb hts hC_10 hown hW (gx.S hM) tt_10 14 ?o1 rfl kw_1157 ⟨rfl, rfl, rfl⟩ ((hM.o gx trivial rfl).1.trans f_x_14) dX10_keepsProof_6 ?_
  case o1 => decide
  have af_qnO := af_qn
  refine hx_iast hx hb hW hT (hx_S.rf (M := [(51, 0)])) (gqn.S hM) tt_51 rfl ⟨?o2, ?o3⟩ rfl ⟨?o4, ?o5⟩ (List.mem_singleton.mpr rfl) dX10_keepsProof_9 (fun H locs h_1 eh_1 hW hT hs => ?_)
  case o2 => omega
  case o3 => omega
  case o4 => omega
  case o5 => omega
  replace af_qp : h_1.2.1 qp = prf := (funext fun j => (hs.a (gqp.S hM) rfl j).1).trans af_qp
  replace hM := hM.tr (hs.mono ?o6)
  case o6 => decide
  obtain ⟨fa_2, dfa_2⟩ : ∃ g : Nat → Int32, g = hx_up psf i1.toNatClampNeg st0 := ⟨_, rfl⟩
  have nfa_2 : h_1.2.1 qn = fa_2 := ?o7
  case o7 =>
    rw [eh_1, dfa_2, ← af_qnO]
    exact hx_pi_fun _ _ _ _
  refine lv_iconst (v := 0) hx hb dX10_keepsProof_10 ?o8 ?_
  case o8 => decide
  refine lv_istore_n (lv' := [(2, .int (0 : Int32)), (0, .ref x), (1, .int i1)]) hx hb dX10_keepsProof_11 rfl hl ?o9 rfl (fun ls hl => ?_)
  case o9 => decide
  have loop12 : ∀ (n12 : Nat) (iv12_2 : Int32) (ia12_qp : Nat → Int32) (H : Heap) (locs : List Loc) (hL1 : List Nat) (hl1 : hx_h), 0 ≤ iv12_2.toInt → iv12_2.toInt ≤ 128 → (hx_kp sf prf ia12_qp i1.toInt iv12_2.toInt) → (iv12_2.toInt ≤ st0.toInt) → ∀ (ls : Array Slot), 128 - iv12_2.toInt < (n12 : Int) → hx_W T_tb (P_ty dA) (dC, dI) vwCl (hx_A L sz) s.heap hL1 hl1 s H locs → hx_T T_tb hL1 hl1 → hx_S T_tb [(51, 0), (52, 0)] L h hL1 hl1 → hl1.2.1 qp = ia12_qp → hl1.2.1 qn = fa_2 → lv_has ls 3 [(2, .int iv12_2), (0, .ref x), (1, .int i1)] → W p l e ({ frames := 0, cells := 0, slots := 0, locals := 0 }) s m ([.ref x, .int i1] : List Value).toArray below meth c H locs 0 0 (MQ below (va_Qv (fun (u : List Nat × hx_h) => (∃ (psf1 : Nat → Int32) (prf1 : Nat → Int32), u.2.2.1 qn = psf1 ∧ u.2.2.1 qp = prf1 ∧ (psf1 = hx_up psf i1.toNatClampNeg st0 ∧ hx_kp sf prf prf1 i1.toInt st0.toInt)) ∧ hx_T T_tb u.1 u.2 ∧ hx_S T_tb [(51, 0), (52, 0)] L h u.1 u.2) (hx_E T_tb (P_ty dA) (dC, dI) vwCl (hx_A L sz)) (hx_A L sz)) ([.ref x, .int i1] : List Value).toArray s 0 0 (hx_A L sz)) (F0 m 12 ls []) := by
    intro n12
    induction n12 with
    | zero => intro iv12_2 ia12_qp H locs hL1 hl1 bliv12_2 buiv12_2 vi12_0 vi12_1 ls hn12; exfalso; omega
    | succ n12 ih12 =>
      intro iv12_2 ia12_qp H locs hL1 hl1 bliv12_2 buiv12_2 vi12_0 vi12_1 ls hn12 hW hT hM  nia12_qp nfa_2 hl
      refine lv_iload_n hx hb dX10_keepsProof_12 rfl (lv_at hl 0 rfl) ?_
      refine lv_aload_n hx hb dX10_keepsProof_13 rfl (lv_at hl 1 rfl) ?_
      refine hk_geti hx hb hts hC_10 hown hW (gx.S hM) tt_10 14 ?o10 rfl kw_1157 ⟨rfl, rfl, rfl⟩ ((hM.o gx trivial rfl).1.trans f_x_14) dX10_keepsProof_14 ?_
      case o10 => decide
      refine hb_icmp_ge (zx := iv12_2.toInt) (zy := st0.toInt) (tgt := 44) hx hb rfl rfl dX10_keepsProof_17 ?o11 (fun c_3 => ?_) (fun c_3 => ?_)
      case o11 => decide
      · skip
        exact hx_retv hx hb hr hlk hW ⟨⟨fa_2, ia12_qp, nfa_2, nia12_qp, ⟨dfa_2, (by have e0 : iv12_2.toInt = st0.toInt := (by omega); rw [← e0]; exact vi12_0)⟩⟩, hT, hM⟩ dX10_keepsProof_44
      · skip
        refine lv_aload_n hx hb dX10_keepsProof_20 rfl (lv_at hl 1 rfl) ?_
        refine hk_getr hx hb hts hC_10 hown hW (gx.S hM) tt_10 5 ?o12 rfl kw_1148 ⟨rfl, rfl, rfl⟩ ((hM.o gx trivial rfl).2.trans f_x_5) dX10_keepsProof_21 ?_
        case o12 => decide
        refine lv_sipush (v := 128) hx hb dX10_keepsProof_24 ?o13 ?_
        case o13 => decide
        refine lv_iload_n hx hb dX10_keepsProof_27 rfl (lv_at hl 2 rfl) ?_
        refine lv_imul hx hb dX10_keepsProof_28 ?_
        refine lv_topi (fun x_4 ex_4 => ?_)
        have zx_4 : x_4.toInt = 128 * i1.toInt := ?o14
        case o14 =>
          rw [ex_4]
          refine i32_mul ?o15 rfl rfl ?o16 ?o17
          case o15 => decide
          case o16 => omega
          case o17 => omega
        refine lv_iload_n hx hb dX10_keepsProof_29 rfl (lv_at hl 0 rfl) ?_
        refine lv_iadd hx hb dX10_keepsProof_30 ?_
        have rg_5 := i32_r x_4
        have rg_6 := i32_r iv12_2
        refine lv_topi (fun x_7 ex_7 => ?_)
        have zx_7 : x_7.toInt = x_4.toInt + iv12_2.toInt := ?o18
        case o18 =>
          rw [ex_7]
          refine i32_add rfl rfl ?o19 ?o20
          case o19 => omega
          case o20 => omega
        refine lv_aload_n hx hb dX10_keepsProof_31 rfl (lv_at hl 1 rfl) ?_
        refine hk_getr hx hb hts hC_10 hown hW (gx.S hM) tt_10 15 ?o21 rfl kw_1158 ⟨rfl, rfl, rfl⟩ ((hM.o gx trivial rfl).2.trans f_x_15) dX10_keepsProof_32 ?_
        case o21 => decide
        refine lv_iload_n hx hb dX10_keepsProof_35 rfl (lv_at hl 0 rfl) ?_
        refine hx_iald hx hb hW hT (gqs.S hM) tt_55 rfl ⟨?o22, ?o23⟩ dX10_keepsProof_36 (fun x_8 ex_8 lx_8 ux_8 => ?_)
        case o22 => omega
        case o23 => omega
        have ax_8 : x_8 = sf iv12_2.toNatClampNeg := ex_8.trans (congrFun (hx_afS hM gqs rfl af_qs) _)
        have nia12_qpO := nia12_qp
        refine hx_iast hx hb hW hT (hx_S.rf (M := [(52, 0)])) (gqp.S hM) tt_52 rfl ⟨?o24, ?o25⟩ rfl (i32_r _) (List.mem_singleton.mpr rfl) dX10_keepsProof_37 (fun H locs h_9 eh_9 hW hT hs => ?_)
        case o24 => omega
        case o25 => omega
        replace nfa_2 : h_9.2.1 qn = fa_2 := (funext fun j => (hs.a (gqn.S hM) rfl j).1).trans nfa_2
        replace ex_8 := ex_8.trans (hs.a (gqs.S hM) rfl _).1.symm
        replace hM := hM.tr (hs.mono ?o26)
        case o26 => decide
        obtain ⟨fa_10, dfa_10⟩ : ∃ g : Nat → Int32, g = hx_up ia12_qp x_7.toNatClampNeg x_8 := ⟨_, rfl⟩
        have nfa_10 : h_9.2.1 qp = fa_10 := ?o27
        case o27 =>
          rw [eh_9, dfa_10, ← nia12_qpO]
          exact hx_pi_fun _ _ _ _
        obtain ⟨x_11, ex_11⟩ : ∃ y : Int32, y = iv12_2 + Int32.ofInt 1 := ⟨_, rfl⟩
        have zx_11 : x_11.toInt = iv12_2.toInt + (1) := ?o28
        case o28 =>
          rw [ex_11]
          refine i32_add rfl ?o29 ?o30 ?o31
          case o29 => decide
          case o30 => omega
          case o31 => omega
        refine lv_iinc (v := x_11) (lv' := [(2, .int x_11), (0, .ref x), (1, .int i1)]) hx hb dX10_keepsProof_38 hl (k := 0) rfl ex_11.symm ?o32 rfl (fun ls hl => ?_)
        case o32 => decide
        refine lv_goto (tgt := 12) hx hb dX10_keepsProof_41 ?o33 ?_
        case o33 => decide
        refine ih12 x_11 fa_10 _ _ hL1 h_9 ?o34 ?o35 (hx_kp_s vi12_0 ?o36 ?o37 ?o38 ax_8 rfl dfa_10 zx_11) ?o39 ls ?o40 hW hT hM  nfa_10 nfa_2 (lv_sub hl [0, 1, 2] rfl)
        case o34 => omega
        case o35 => omega
        case o36 => omega
        case o37 => omega
        case o38 => omega
        case o39 => omega
        case o40 => omega
  have zk_0 : (0 : Int32).toInt = 0 := ?o41
  case o41 => decide
  refine loop12 129 (0 : Int32) prf _ _ L h_1 ?o42 ?o43 hx_kp0 ?o44 ls ?o45 hW hT hM  af_qp nfa_2 hl
  case o42 => decide
  case o43 => decide
  case o44 => omega
  case o45 => omega

def wNX10_clause : Nat := 440434818961475431105747286857917914001618456592375074435337755553289230790855743175341803833419243431838420639292068929297767612852409777671799303832974737451462315282677846570016160838920113477367016720077823055495656055743455084745996209370856050310735741725052675979478457348108653239537777803305079521295353162128631751228945187211211990476491552997936703756512066009414765621622527609042537106689890168786972422012899664683284251544157224380300200065173688606697808967403862866201587861811559115731789070629471130188598920976272446361915585714326433427276551637192324576226233833554316163054643057954640747008709734389304556474144160531723818
theorem wX10_clause_c : hz_cd cX10_clause wNX10_clause 269 := ⟨by decide +kernel, by decide +kernel⟩
theorem dX10_clause_0 : decode cX10_clause 0 = .ok (.aload_n 0, 1) := dw_42 wX10_clause_c rfl
theorem dX10_clause_1 : decode cX10_clause 1 = .ok (.invokevirtual 277, 3) := dw_182 wX10_clause_c 1 21 rfl rfl
theorem dX10_clause_4 : decode cX10_clause 4 = .ok (.istore_n 1, 1) := dw_60 wX10_clause_c rfl
theorem dX10_clause_5 : decode cX10_clause 5 = .ok (.aload_n 0, 1) := dw_42 wX10_clause_c rfl
theorem dX10_clause_6 : decode cX10_clause 6 = .ok (.getfield 245, 3) := dw_180 wX10_clause_c 0 245 rfl rfl
theorem dX10_clause_9 : decode cX10_clause 9 = .ok (.istore_n 2, 1) := dw_61 wX10_clause_c rfl
theorem dX10_clause_10 : decode cX10_clause 10 = .ok (.iload_n 1, 1) := dw_27 wX10_clause_c rfl
theorem dX10_clause_11 : decode cX10_clause 11 = .ok (.bipush 11, 2) := dw_16 wX10_clause_c 11 rfl rfl rfl
theorem dX10_clause_13 : decode cX10_clause 13 = .ok (.bipush 20, 2) := dw_16 wX10_clause_c 20 rfl rfl rfl
theorem dX10_clause_15 : decode cX10_clause 15 = .ok (.invokestatic 228, 3) := dw_184 wX10_clause_c 0 228 rfl rfl
theorem dX10_clause_18 : decode cX10_clause 18 = .ok (.ifCond .ne 10, 3) := dw_154 wX10_clause_c 0 10 rfl rfl rfl
theorem dX10_clause_21 : decode cX10_clause 21 = .ok (.aload_n 0, 1) := dw_42 wX10_clause_c rfl
theorem dX10_clause_22 : decode cX10_clause 22 = .ok (.iconst 0, 1) := dw_3 wX10_clause_c rfl
theorem dX10_clause_23 : decode cX10_clause 23 = .ok (.iload_n 2, 1) := dw_28 wX10_clause_c rfl
theorem dX10_clause_24 : decode cX10_clause 24 = .ok (.invokevirtual 255, 3) := dw_182 wX10_clause_c 0 255 rfl rfl
theorem dX10_clause_27 : decode cX10_clause 27 = .ok (.ireturn, 1) := dw_172 wX10_clause_c rfl
theorem dX10_clause_28 : decode cX10_clause 28 = .ok (.iload_n 1, 1) := dw_27 wX10_clause_c rfl
theorem dX10_clause_29 : decode cX10_clause 29 = .ok (.bipush 20, 2) := dw_16 wX10_clause_c 20 rfl rfl rfl
theorem dX10_clause_31 : decode cX10_clause 31 = .ok (.if_icmp .ne 33, 3) := dw_160 wX10_clause_c 0 33 rfl rfl rfl
theorem dX10_clause_34 : decode cX10_clause 34 = .ok (.aload_n 0, 1) := dw_42 wX10_clause_c rfl
theorem dX10_clause_35 : decode cX10_clause 35 = .ok (.bipush 20, 2) := dw_16 wX10_clause_c 20 rfl rfl rfl
theorem dX10_clause_37 : decode cX10_clause 37 = .ok (.iload_n 2, 1) := dw_28 wX10_clause_c rfl
theorem dX10_clause_38 : decode cX10_clause 38 = .ok (.invokevirtual 309, 3) := dw_182 wX10_clause_c 1 53 rfl rfl
theorem dX10_clause_41 : decode cX10_clause 41 = .ok (.ifCond .ne 5, 3) := dw_154 wX10_clause_c 0 5 rfl rfl rfl
theorem dX10_clause_44 : decode cX10_clause 44 = .ok (.iconst 0, 1) := dw_3 wX10_clause_c rfl
theorem dX10_clause_45 : decode cX10_clause 45 = .ok (.ireturn, 1) := dw_172 wX10_clause_c rfl
theorem dX10_clause_46 : decode cX10_clause 46 = .ok (.aload_n 0, 1) := dw_42 wX10_clause_c rfl
theorem dX10_clause_47 : decode cX10_clause 47 = .ok (.dup, 1) := dw_89 wX10_clause_c rfl
theorem dX10_clause_48 : decode cX10_clause 48 = .ok (.getfield 245, 3) := dw_180 wX10_clause_c 0 245 rfl rfl
theorem dX10_clause_51 : decode cX10_clause 51 = .ok (.aload_n 0, 1) := dw_42 wX10_clause_c rfl
theorem dX10_clause_52 : decode cX10_clause 52 = .ok (.getfield 252, 3) := dw_180 wX10_clause_c 0 252 rfl rfl
theorem dX10_clause_55 : decode cX10_clause 55 = .ok (.iadd, 1) := dw_96 wX10_clause_c rfl
theorem dX10_clause_56 : decode cX10_clause 56 = .ok (.putfield 245, 3) := dw_181 wX10_clause_c 0 245 rfl rfl
theorem dX10_clause_59 : decode cX10_clause 59 = .ok (.aload_n 0, 1) := dw_42 wX10_clause_c rfl
theorem dX10_clause_60 : decode cX10_clause 60 = .ok (.invokevirtual 312, 3) := dw_182 wX10_clause_c 1 56 rfl rfl
theorem dX10_clause_63 : decode cX10_clause 63 = .ok (.ireturn, 1) := dw_172 wX10_clause_c rfl
theorem dX10_clause_64 : decode cX10_clause 64 = .ok (.iload_n 1, 1) := dw_27 wX10_clause_c rfl
theorem dX10_clause_65 : decode cX10_clause 65 = .ok (.bipush 19, 2) := dw_16 wX10_clause_c 19 rfl rfl rfl
theorem dX10_clause_67 : decode cX10_clause 67 = .ok (.if_icmp .ne 101, 3) := dw_160 wX10_clause_c 0 101 rfl rfl rfl
theorem dX10_clause_70 : decode cX10_clause 70 = .ok (.aload_n 0, 1) := dw_42 wX10_clause_c rfl
theorem dX10_clause_71 : decode cX10_clause 71 = .ok (.dup, 1) := dw_89 wX10_clause_c rfl
theorem dX10_clause_72 : decode cX10_clause 72 = .ok (.getfield 245, 3) := dw_180 wX10_clause_c 0 245 rfl rfl
theorem dX10_clause_75 : decode cX10_clause 75 = .ok (.aload_n 0, 1) := dw_42 wX10_clause_c rfl
theorem dX10_clause_76 : decode cX10_clause 76 = .ok (.getfield 252, 3) := dw_180 wX10_clause_c 0 252 rfl rfl
theorem dX10_clause_79 : decode cX10_clause 79 = .ok (.iadd, 1) := dw_96 wX10_clause_c rfl
theorem dX10_clause_80 : decode cX10_clause 80 = .ok (.putfield 245, 3) := dw_181 wX10_clause_c 0 245 rfl rfl
theorem dX10_clause_83 : decode cX10_clause 83 = .ok (.aload_n 0, 1) := dw_42 wX10_clause_c rfl
theorem dX10_clause_84 : decode cX10_clause 84 = .ok (.invokevirtual 277, 3) := dw_182 wX10_clause_c 1 21 rfl rfl
theorem dX10_clause_87 : decode cX10_clause 87 = .ok (.bipush 21, 2) := dw_16 wX10_clause_c 21 rfl rfl rfl
theorem dX10_clause_89 : decode cX10_clause 89 = .ok (.isub, 1) := dw_100 wX10_clause_c rfl
theorem dX10_clause_90 : decode cX10_clause 90 = .ok (.istore_n 3, 1) := dw_62 wX10_clause_c rfl
theorem dX10_clause_91 : decode cX10_clause 91 = .ok (.iload_n 3, 1) := dw_29 wX10_clause_c rfl
theorem dX10_clause_92 : decode cX10_clause 92 = .ok (.iconst 0, 1) := dw_3 wX10_clause_c rfl
theorem dX10_clause_93 : decode cX10_clause 93 = .ok (.iconst 3, 1) := dw_6 wX10_clause_c rfl
theorem dX10_clause_94 : decode cX10_clause 94 = .ok (.invokestatic 228, 3) := dw_184 wX10_clause_c 0 228 rfl rfl
theorem dX10_clause_97 : decode cX10_clause 97 = .ok (.ifCond .ne 13, 3) := dw_154 wX10_clause_c 0 13 rfl rfl rfl
theorem dX10_clause_100 : decode cX10_clause 100 = .ok (.aload_n 0, 1) := dw_42 wX10_clause_c rfl
theorem dX10_clause_101 : decode cX10_clause 101 = .ok (.iconst 0, 1) := dw_3 wX10_clause_c rfl
theorem dX10_clause_102 : decode cX10_clause 102 = .ok (.aload_n 0, 1) := dw_42 wX10_clause_c rfl
theorem dX10_clause_103 : decode cX10_clause 103 = .ok (.getfield 245, 3) := dw_180 wX10_clause_c 0 245 rfl rfl
theorem dX10_clause_106 : decode cX10_clause 106 = .ok (.invokevirtual 255, 3) := dw_182 wX10_clause_c 0 255 rfl rfl
theorem dX10_clause_109 : decode cX10_clause 109 = .ok (.ireturn, 1) := dw_172 wX10_clause_c rfl
theorem dX10_clause_110 : decode cX10_clause 110 = .ok (.aload_n 0, 1) := dw_42 wX10_clause_c rfl
theorem dX10_clause_111 : decode cX10_clause 111 = .ok (.bipush 9, 2) := dw_16 wX10_clause_c 9 rfl rfl rfl
theorem dX10_clause_113 : decode cX10_clause 113 = .ok (.iload_n 3, 1) := dw_29 wX10_clause_c rfl
theorem dX10_clause_114 : decode cX10_clause 114 = .ok (.iadd, 1) := dw_96 wX10_clause_c rfl
theorem dX10_clause_115 : decode cX10_clause 115 = .ok (.aload_n 0, 1) := dw_42 wX10_clause_c rfl
theorem dX10_clause_116 : decode cX10_clause 116 = .ok (.getfield 245, 3) := dw_180 wX10_clause_c 0 245 rfl rfl
theorem dX10_clause_119 : decode cX10_clause 119 = .ok (.invokevirtual 309, 3) := dw_182 wX10_clause_c 1 53 rfl rfl
theorem dX10_clause_122 : decode cX10_clause 122 = .ok (.ifCond .ne 5, 3) := dw_154 wX10_clause_c 0 5 rfl rfl rfl
theorem dX10_clause_125 : decode cX10_clause 125 = .ok (.iconst 0, 1) := dw_3 wX10_clause_c rfl
theorem dX10_clause_126 : decode cX10_clause 126 = .ok (.ireturn, 1) := dw_172 wX10_clause_c rfl
theorem dX10_clause_127 : decode cX10_clause 127 = .ok (.aload_n 0, 1) := dw_42 wX10_clause_c rfl
theorem dX10_clause_128 : decode cX10_clause 128 = .ok (.dup, 1) := dw_89 wX10_clause_c rfl
theorem dX10_clause_129 : decode cX10_clause 129 = .ok (.getfield 245, 3) := dw_180 wX10_clause_c 0 245 rfl rfl
theorem dX10_clause_132 : decode cX10_clause 132 = .ok (.aload_n 0, 1) := dw_42 wX10_clause_c rfl
theorem dX10_clause_133 : decode cX10_clause 133 = .ok (.getfield 252, 3) := dw_180 wX10_clause_c 0 252 rfl rfl
theorem dX10_clause_136 : decode cX10_clause 136 = .ok (.iadd, 1) := dw_96 wX10_clause_c rfl
theorem dX10_clause_137 : decode cX10_clause 137 = .ok (.putfield 245, 3) := dw_181 wX10_clause_c 0 245 rfl rfl
theorem dX10_clause_140 : decode cX10_clause 140 = .ok (.aload_n 0, 1) := dw_42 wX10_clause_c rfl
theorem dX10_clause_141 : decode cX10_clause 141 = .ok (.iconst 0, 1) := dw_3 wX10_clause_c rfl
theorem dX10_clause_142 : decode cX10_clause 142 = .ok (.sipush 999, 3) := dw_17 wX10_clause_c 3 231 rfl rfl rfl
theorem dX10_clause_145 : decode cX10_clause 145 = .ok (.invokevirtual 287, 3) := dw_182 wX10_clause_c 1 31 rfl rfl
theorem dX10_clause_148 : decode cX10_clause 148 = .ok (.ifCond .ne 5, 3) := dw_154 wX10_clause_c 0 5 rfl rfl rfl
theorem dX10_clause_151 : decode cX10_clause 151 = .ok (.iconst 0, 1) := dw_3 wX10_clause_c rfl
theorem dX10_clause_152 : decode cX10_clause 152 = .ok (.ireturn, 1) := dw_172 wX10_clause_c rfl
theorem dX10_clause_153 : decode cX10_clause 153 = .ok (.aload_n 0, 1) := dw_42 wX10_clause_c rfl
theorem dX10_clause_154 : decode cX10_clause 154 = .ok (.getfield 26, 3) := dw_180 wX10_clause_c 0 26 rfl rfl
theorem dX10_clause_157 : decode cX10_clause 157 = .ok (.bipush 9, 2) := dw_16 wX10_clause_c 9 rfl rfl rfl
theorem dX10_clause_159 : decode cX10_clause 159 = .ok (.iload_n 3, 1) := dw_29 wX10_clause_c rfl
theorem dX10_clause_160 : decode cX10_clause 160 = .ok (.iadd, 1) := dw_96 wX10_clause_c rfl
theorem dX10_clause_161 : decode cX10_clause 161 = .ok (.aload_n 0, 1) := dw_42 wX10_clause_c rfl
theorem dX10_clause_162 : decode cX10_clause 162 = .ok (.getfield 259, 3) := dw_180 wX10_clause_c 1 3 rfl rfl
theorem dX10_clause_165 : decode cX10_clause 165 = .ok (.iastore, 1) := dw_79 wX10_clause_c rfl
theorem dX10_clause_166 : decode cX10_clause 166 = .ok (.iconst 1, 1) := dw_4 wX10_clause_c rfl
theorem dX10_clause_167 : decode cX10_clause 167 = .ok (.ireturn, 1) := dw_172 wX10_clause_c rfl
theorem dX10_clause_168 : decode cX10_clause 168 = .ok (.iload_n 1, 1) := dw_27 wX10_clause_c rfl
theorem dX10_clause_169 : decode cX10_clause 169 = .ok (.bipush 11, 2) := dw_16 wX10_clause_c 11 rfl rfl rfl
theorem dX10_clause_171 : decode cX10_clause 171 = .ok (.isub, 1) := dw_100 wX10_clause_c rfl
theorem dX10_clause_172 : decode cX10_clause 172 = .ok (.istore_n 3, 1) := dw_62 wX10_clause_c rfl
theorem dX10_clause_173 : decode cX10_clause 173 = .ok (.iload_n 3, 1) := dw_29 wX10_clause_c rfl
theorem dX10_clause_174 : decode cX10_clause 174 = .ok (.iconst 5, 1) := dw_8 wX10_clause_c rfl
theorem dX10_clause_175 : decode cX10_clause 175 = .ok (.if_icmp .le 9, 3) := dw_164 wX10_clause_c 0 9 rfl rfl rfl
theorem dX10_clause_178 : decode cX10_clause 178 = .ok (.iload_n 3, 1) := dw_29 wX10_clause_c rfl
theorem dX10_clause_179 : decode cX10_clause 179 = .ok (.iconst 1, 1) := dw_4 wX10_clause_c rfl
theorem dX10_clause_180 : decode cX10_clause 180 = .ok (.iadd, 1) := dw_96 wX10_clause_c rfl
theorem dX10_clause_181 : decode cX10_clause 181 = .ok (.goto 4, 3) := dw_167 wX10_clause_c 0 4 rfl rfl rfl
theorem dX10_clause_184 : decode cX10_clause 184 = .ok (.iload_n 3, 1) := dw_29 wX10_clause_c rfl
theorem dX10_clause_185 : decode cX10_clause 185 = .ok (.istore_n 3, 1) := dw_62 wX10_clause_c rfl
theorem dX10_clause_186 : decode cX10_clause 186 = .ok (.aload_n 0, 1) := dw_42 wX10_clause_c rfl
theorem dX10_clause_187 : decode cX10_clause 187 = .ok (.iload_n 3, 1) := dw_29 wX10_clause_c rfl
theorem dX10_clause_188 : decode cX10_clause 188 = .ok (.iload_n 2, 1) := dw_28 wX10_clause_c rfl
theorem dX10_clause_189 : decode cX10_clause 189 = .ok (.invokevirtual 309, 3) := dw_182 wX10_clause_c 1 53 rfl rfl
theorem dX10_clause_192 : decode cX10_clause 192 = .ok (.ifCond .ne 5, 3) := dw_154 wX10_clause_c 0 5 rfl rfl rfl
theorem dX10_clause_195 : decode cX10_clause 195 = .ok (.iconst 0, 1) := dw_3 wX10_clause_c rfl
theorem dX10_clause_196 : decode cX10_clause 196 = .ok (.ireturn, 1) := dw_172 wX10_clause_c rfl
theorem dX10_clause_197 : decode cX10_clause 197 = .ok (.aload_n 0, 1) := dw_42 wX10_clause_c rfl
theorem dX10_clause_198 : decode cX10_clause 198 = .ok (.dup, 1) := dw_89 wX10_clause_c rfl
theorem dX10_clause_199 : decode cX10_clause 199 = .ok (.getfield 245, 3) := dw_180 wX10_clause_c 0 245 rfl rfl
theorem dX10_clause_202 : decode cX10_clause 202 = .ok (.aload_n 0, 1) := dw_42 wX10_clause_c rfl
theorem dX10_clause_203 : decode cX10_clause 203 = .ok (.getfield 252, 3) := dw_180 wX10_clause_c 0 252 rfl rfl
theorem dX10_clause_206 : decode cX10_clause 206 = .ok (.iadd, 1) := dw_96 wX10_clause_c rfl
theorem dX10_clause_207 : decode cX10_clause 207 = .ok (.putfield 245, 3) := dw_181 wX10_clause_c 0 245 rfl rfl
theorem dX10_clause_210 : decode cX10_clause 210 = .ok (.aload_n 0, 1) := dw_42 wX10_clause_c rfl
theorem dX10_clause_211 : decode cX10_clause 211 = .ok (.iload_n 3, 1) := dw_29 wX10_clause_c rfl
theorem dX10_clause_212 : decode cX10_clause 212 = .ok (.invokestatic 315, 3) := dw_184 wX10_clause_c 1 59 rfl rfl
theorem dX10_clause_215 : decode cX10_clause 215 = .ok (.iload_n 3, 1) := dw_29 wX10_clause_c rfl
theorem dX10_clause_216 : decode cX10_clause 216 = .ok (.invokestatic 318, 3) := dw_184 wX10_clause_c 1 62 rfl rfl
theorem dX10_clause_219 : decode cX10_clause 219 = .ok (.invokevirtual 287, 3) := dw_182 wX10_clause_c 1 31 rfl rfl
theorem dX10_clause_222 : decode cX10_clause 222 = .ok (.ifCond .ne 5, 3) := dw_154 wX10_clause_c 0 5 rfl rfl rfl
theorem dX10_clause_225 : decode cX10_clause 225 = .ok (.iconst 0, 1) := dw_3 wX10_clause_c rfl
theorem dX10_clause_226 : decode cX10_clause 226 = .ok (.ireturn, 1) := dw_172 wX10_clause_c rfl
theorem dX10_clause_227 : decode cX10_clause 227 = .ok (.aload_n 0, 1) := dw_42 wX10_clause_c rfl
theorem dX10_clause_228 : decode cX10_clause 228 = .ok (.getfield 26, 3) := dw_180 wX10_clause_c 0 26 rfl rfl
theorem dX10_clause_231 : decode cX10_clause 231 = .ok (.iload_n 3, 1) := dw_29 wX10_clause_c rfl
theorem dX10_clause_232 : decode cX10_clause 232 = .ok (.aload_n 0, 1) := dw_42 wX10_clause_c rfl
theorem dX10_clause_233 : decode cX10_clause 233 = .ok (.getfield 259, 3) := dw_180 wX10_clause_c 1 3 rfl rfl
theorem dX10_clause_236 : decode cX10_clause 236 = .ok (.iastore, 1) := dw_79 wX10_clause_c rfl
theorem dX10_clause_237 : decode cX10_clause 237 = .ok (.iload_n 3, 1) := dw_29 wX10_clause_c rfl
theorem dX10_clause_238 : decode cX10_clause 238 = .ok (.iconst 5, 1) := dw_8 wX10_clause_c rfl
theorem dX10_clause_239 : decode cX10_clause 239 = .ok (.if_icmp .eq 5, 3) := dw_159 wX10_clause_c 0 5 rfl rfl rfl
theorem dX10_clause_242 : decode cX10_clause 242 = .ok (.iconst 1, 1) := dw_4 wX10_clause_c rfl
theorem dX10_clause_243 : decode cX10_clause 243 = .ok (.ireturn, 1) := dw_172 wX10_clause_c rfl
theorem dX10_clause_244 : decode cX10_clause 244 = .ok (.aload_n 0, 1) := dw_42 wX10_clause_c rfl
theorem dX10_clause_245 : decode cX10_clause 245 = .ok (.iconst 1, 1) := dw_4 wX10_clause_c rfl
theorem dX10_clause_246 : decode cX10_clause 246 = .ok (.bipush 30, 2) := dw_16 wX10_clause_c 30 rfl rfl rfl
theorem dX10_clause_248 : decode cX10_clause 248 = .ok (.invokevirtual 287, 3) := dw_182 wX10_clause_c 1 31 rfl rfl
theorem dX10_clause_251 : decode cX10_clause 251 = .ok (.ifCond .ne 5, 3) := dw_154 wX10_clause_c 0 5 rfl rfl rfl
theorem dX10_clause_254 : decode cX10_clause 254 = .ok (.iconst 0, 1) := dw_3 wX10_clause_c rfl
theorem dX10_clause_255 : decode cX10_clause 255 = .ok (.ireturn, 1) := dw_172 wX10_clause_c rfl
theorem dX10_clause_256 : decode cX10_clause 256 = .ok (.aload_n 0, 1) := dw_42 wX10_clause_c rfl
theorem dX10_clause_257 : decode cX10_clause 257 = .ok (.getfield 26, 3) := dw_180 wX10_clause_c 0 26 rfl rfl
theorem dX10_clause_260 : decode cX10_clause 260 = .ok (.bipush 6, 2) := dw_16 wX10_clause_c 6 rfl rfl rfl
theorem dX10_clause_262 : decode cX10_clause 262 = .ok (.aload_n 0, 1) := dw_42 wX10_clause_c rfl
theorem dX10_clause_263 : decode cX10_clause 263 = .ok (.getfield 259, 3) := dw_180 wX10_clause_c 1 3 rfl rfl
theorem dX10_clause_266 : decode cX10_clause 266 = .ok (.iastore, 1) := dw_79 wX10_clause_c rfl
theorem dX10_clause_267 : decode cX10_clause 267 = .ok (.iconst 1, 1) := dw_4 wX10_clause_c rfl
theorem dX10_clause_268 : decode cX10_clause 268 = .ok (.ireturn, 1) := dw_172 wX10_clause_c rfl
def wNX10_act : Nat := 1724187713426206646214391958396309784035680883646383728895316002715093164191603763928504874726235108605061654137070163862832526738877438905325895458943411763113969342636245350124681858021544184258246512673917060403452324770556773645028546857416611360822251112359233611033631347354001943819644011259276257971250897067789175777063852001441283490476713772576352564562347837183554419001699407673141347771159049501070838082332059802236423175541827809991110428045749330499576283815278461848536618854688600938940844340120109969168005429358133014998921268517639899950526834122664914172456980422773505434294045828364818738880976535341794634904509360485418
theorem wX10_act_c : hz_cd cX10_act wNX10_act 268 := ⟨by decide +kernel, by decide +kernel⟩
theorem dX10_act_0 : decode cX10_act 0 = .ok (.aload_n 0, 1) := dw_42 wX10_act_c rfl
theorem dX10_act_1 : decode cX10_act 1 = .ok (.getfield 321, 3) := dw_180 wX10_act_c 1 65 rfl rfl
theorem dX10_act_4 : decode cX10_act 4 = .ok (.bipush 8, 2) := dw_16 wX10_act_c 8 rfl rfl rfl
theorem dX10_act_6 : decode cX10_act 6 = .ok (.if_icmp .eq 10, 3) := dw_159 wX10_act_c 0 10 rfl rfl rfl
theorem dX10_act_9 : decode cX10_act 9 = .ok (.iload_n 1, 1) := dw_27 wX10_act_c rfl
theorem dX10_act_10 : decode cX10_act 10 = .ok (.invokestatic 324, 3) := dw_184 wX10_act_c 1 68 rfl rfl
theorem dX10_act_13 : decode cX10_act 13 = .ok (.ifCond .ne 5, 3) := dw_154 wX10_act_c 0 5 rfl rfl rfl
theorem dX10_act_16 : decode cX10_act 16 = .ok (.iconst (-1), 1) := dw_2 wX10_act_c rfl
theorem dX10_act_17 : decode cX10_act 17 = .ok (.ireturn, 1) := dw_172 wX10_act_c rfl
theorem dX10_act_18 : decode cX10_act 18 = .ok (.aload_n 0, 1) := dw_42 wX10_act_c rfl
theorem dX10_act_19 : decode cX10_act 19 = .ok (.iconst 0, 1) := dw_3 wX10_act_c rfl
theorem dX10_act_20 : decode cX10_act 20 = .ok (.putfield 245, 3) := dw_181 wX10_act_c 0 245 rfl rfl
theorem dX10_act_23 : decode cX10_act 23 = .ok (.aload_n 0, 1) := dw_42 wX10_act_c rfl
theorem dX10_act_24 : decode cX10_act 24 = .ok (.iconst 0, 1) := dw_3 wX10_act_c rfl
theorem dX10_act_25 : decode cX10_act 25 = .ok (.putfield 242, 3) := dw_181 wX10_act_c 0 242 rfl rfl
theorem dX10_act_28 : decode cX10_act 28 = .ok (.aload_n 0, 1) := dw_42 wX10_act_c rfl
theorem dX10_act_29 : decode cX10_act 29 = .ok (.iconst 0, 1) := dw_3 wX10_act_c rfl
theorem dX10_act_30 : decode cX10_act 30 = .ok (.putfield 306, 3) := dw_181 wX10_act_c 1 50 rfl rfl
theorem dX10_act_33 : decode cX10_act 33 = .ok (.iconst 0, 1) := dw_3 wX10_act_c rfl
theorem dX10_act_34 : decode cX10_act 34 = .ok (.istore_n 2, 1) := dw_61 wX10_act_c rfl
theorem dX10_act_35 : decode cX10_act 35 = .ok (.iload_n 2, 1) := dw_28 wX10_act_c rfl
theorem dX10_act_36 : decode cX10_act 36 = .ok (.bipush 13, 2) := dw_16 wX10_act_c 13 rfl rfl rfl
theorem dX10_act_38 : decode cX10_act 38 = .ok (.if_icmp .ge 19, 3) := dw_162 wX10_act_c 0 19 rfl rfl rfl
theorem dX10_act_41 : decode cX10_act 41 = .ok (.aload_n 0, 1) := dw_42 wX10_act_c rfl
theorem dX10_act_42 : decode cX10_act 42 = .ok (.getfield 26, 3) := dw_180 wX10_act_c 0 26 rfl rfl
theorem dX10_act_45 : decode cX10_act 45 = .ok (.iload_n 2, 1) := dw_28 wX10_act_c rfl
theorem dX10_act_46 : decode cX10_act 46 = .ok (.iload_n 2, 1) := dw_28 wX10_act_c rfl
theorem dX10_act_47 : decode cX10_act 47 = .ok (.invokestatic 214, 3) := dw_184 wX10_act_c 0 214 rfl rfl
theorem dX10_act_50 : decode cX10_act 50 = .ok (.iastore, 1) := dw_79 wX10_act_c rfl
theorem dX10_act_51 : decode cX10_act 51 = .ok (.iinc 2 1, 3) := dw_132 wX10_act_c 2 1 rfl rfl rfl
theorem dX10_act_54 : decode cX10_act 54 = .ok (.goto (-19), 3) := dn_167 wX10_act_c 255 237 rfl (by decide)
theorem dX10_act_57 : decode cX10_act 57 = .ok (.aload_n 0, 1) := dw_42 wX10_act_c rfl
theorem dX10_act_58 : decode cX10_act 58 = .ok (.invokevirtual 218, 3) := dw_182 wX10_act_c 0 218 rfl rfl
theorem dX10_act_61 : decode cX10_act 61 = .ok (.aload_n 0, 1) := dw_42 wX10_act_c rfl
theorem dX10_act_62 : decode cX10_act 62 = .ok (.invokevirtual 221, 3) := dw_182 wX10_act_c 0 221 rfl rfl
theorem dX10_act_65 : decode cX10_act 65 = .ok (.iconst 1, 1) := dw_4 wX10_act_c rfl
theorem dX10_act_66 : decode cX10_act 66 = .ok (.istore_n 2, 1) := dw_61 wX10_act_c rfl
theorem dX10_act_67 : decode cX10_act 67 = .ok (.aload_n 0, 1) := dw_42 wX10_act_c rfl
theorem dX10_act_68 : decode cX10_act 68 = .ok (.invokevirtual 248, 3) := dw_182 wX10_act_c 0 248 rfl rfl
theorem dX10_act_71 : decode cX10_act 71 = .ok (.iconst (-1), 1) := dw_2 wX10_act_c rfl
theorem dX10_act_72 : decode cX10_act 72 = .ok (.if_icmp .eq 7, 3) := dw_159 wX10_act_c 0 7 rfl rfl rfl
theorem dX10_act_75 : decode cX10_act 75 = .ok (.iconst 1, 1) := dw_4 wX10_act_c rfl
theorem dX10_act_76 : decode cX10_act 76 = .ok (.goto 4, 3) := dw_167 wX10_act_c 0 4 rfl rfl rfl
theorem dX10_act_79 : decode cX10_act 79 = .ok (.iconst 0, 1) := dw_3 wX10_act_c rfl
theorem dX10_act_80 : decode cX10_act 80 = .ok (.istore_n 3, 1) := dw_62 wX10_act_c rfl
theorem dX10_act_81 : decode cX10_act 81 = .ok (.iload_n 2, 1) := dw_28 wX10_act_c rfl
theorem dX10_act_82 : decode cX10_act 82 = .ok (.ifCond .eq 96, 3) := dw_153 wX10_act_c 0 96 rfl rfl rfl
theorem dX10_act_85 : decode cX10_act 85 = .ok (.iload_n 3, 1) := dw_29 wX10_act_c rfl
theorem dX10_act_86 : decode cX10_act 86 = .ok (.ifCond .eq 92, 3) := dw_153 wX10_act_c 0 92 rfl rfl rfl
theorem dX10_act_89 : decode cX10_act 89 = .ok (.aload_n 0, 1) := dw_42 wX10_act_c rfl
theorem dX10_act_90 : decode cX10_act 90 = .ok (.invokevirtual 327, 3) := dw_182 wX10_act_c 1 71 rfl rfl
theorem dX10_act_93 : decode cX10_act 93 = .ok (.istore_n 2, 1) := dw_61 wX10_act_c rfl
theorem dX10_act_94 : decode cX10_act 94 = .ok (.iload_n 2, 1) := dw_28 wX10_act_c rfl
theorem dX10_act_95 : decode cX10_act 95 = .ok (.ifCond .eq 15, 3) := dw_153 wX10_act_c 0 15 rfl rfl rfl
theorem dX10_act_98 : decode cX10_act 98 = .ok (.aload_n 0, 1) := dw_42 wX10_act_c rfl
theorem dX10_act_99 : decode cX10_act 99 = .ok (.invokevirtual 248, 3) := dw_182 wX10_act_c 0 248 rfl rfl
theorem dX10_act_102 : decode cX10_act 102 = .ok (.iconst (-1), 1) := dw_2 wX10_act_c rfl
theorem dX10_act_103 : decode cX10_act 103 = .ok (.if_icmp .eq 7, 3) := dw_159 wX10_act_c 0 7 rfl rfl rfl
theorem dX10_act_106 : decode cX10_act 106 = .ok (.iconst 1, 1) := dw_4 wX10_act_c rfl
theorem dX10_act_107 : decode cX10_act 107 = .ok (.goto 4, 3) := dw_167 wX10_act_c 0 4 rfl rfl rfl
theorem dX10_act_110 : decode cX10_act 110 = .ok (.iconst 0, 1) := dw_3 wX10_act_c rfl
theorem dX10_act_111 : decode cX10_act 111 = .ok (.istore_n 3, 1) := dw_62 wX10_act_c rfl
theorem dX10_act_112 : decode cX10_act 112 = .ok (.iload_n 3, 1) := dw_29 wX10_act_c rfl
theorem dX10_act_113 : decode cX10_act 113 = .ok (.ifCond .eq 22, 3) := dw_153 wX10_act_c 0 22 rfl rfl rfl
theorem dX10_act_116 : decode cX10_act 116 = .ok (.aload_n 0, 1) := dw_42 wX10_act_c rfl
theorem dX10_act_117 : decode cX10_act 117 = .ok (.invokevirtual 248, 3) := dw_182 wX10_act_c 0 248 rfl rfl
theorem dX10_act_120 : decode cX10_act 120 = .ok (.bipush 59, 2) := dw_16 wX10_act_c 59 rfl rfl rfl
theorem dX10_act_122 : decode cX10_act 122 = .ok (.if_icmp .eq 13, 3) := dw_159 wX10_act_c 0 13 rfl rfl rfl
theorem dX10_act_125 : decode cX10_act 125 = .ok (.aload_n 0, 1) := dw_42 wX10_act_c rfl
theorem dX10_act_126 : decode cX10_act 126 = .ok (.iconst 0, 1) := dw_3 wX10_act_c rfl
theorem dX10_act_127 : decode cX10_act 127 = .ok (.aload_n 0, 1) := dw_42 wX10_act_c rfl
theorem dX10_act_128 : decode cX10_act 128 = .ok (.getfield 245, 3) := dw_180 wX10_act_c 0 245 rfl rfl
theorem dX10_act_131 : decode cX10_act 131 = .ok (.invokevirtual 255, 3) := dw_182 wX10_act_c 0 255 rfl rfl
theorem dX10_act_134 : decode cX10_act 134 = .ok (.istore_n 2, 1) := dw_61 wX10_act_c rfl
theorem dX10_act_135 : decode cX10_act 135 = .ok (.iload_n 3, 1) := dw_29 wX10_act_c rfl
theorem dX10_act_136 : decode cX10_act 136 = .ok (.ifCond .eq 13, 3) := dw_153 wX10_act_c 0 13 rfl rfl rfl
theorem dX10_act_139 : decode cX10_act 139 = .ok (.aload_n 0, 1) := dw_42 wX10_act_c rfl
theorem dX10_act_140 : decode cX10_act 140 = .ok (.dup, 1) := dw_89 wX10_act_c rfl
theorem dX10_act_141 : decode cX10_act 141 = .ok (.getfield 245, 3) := dw_180 wX10_act_c 0 245 rfl rfl
theorem dX10_act_144 : decode cX10_act 144 = .ok (.iconst 1, 1) := dw_4 wX10_act_c rfl
theorem dX10_act_145 : decode cX10_act 145 = .ok (.iadd, 1) := dw_96 wX10_act_c rfl
theorem dX10_act_146 : decode cX10_act 146 = .ok (.putfield 245, 3) := dw_181 wX10_act_c 0 245 rfl rfl
theorem dX10_act_149 : decode cX10_act 149 = .ok (.iload_n 2, 1) := dw_28 wX10_act_c rfl
theorem dX10_act_150 : decode cX10_act 150 = .ok (.ifCond .eq (-69), 3) := dn_153 wX10_act_c 255 187 rfl (by decide)
theorem dX10_act_153 : decode cX10_act 153 = .ok (.iload_n 3, 1) := dw_29 wX10_act_c rfl
theorem dX10_act_154 : decode cX10_act 154 = .ok (.ifCond .eq (-73), 3) := dn_153 wX10_act_c 255 183 rfl (by decide)
theorem dX10_act_157 : decode cX10_act 157 = .ok (.aload_n 0, 1) := dw_42 wX10_act_c rfl
theorem dX10_act_158 : decode cX10_act 158 = .ok (.invokevirtual 248, 3) := dw_182 wX10_act_c 0 248 rfl rfl
theorem dX10_act_161 : decode cX10_act 161 = .ok (.iconst (-1), 1) := dw_2 wX10_act_c rfl
theorem dX10_act_162 : decode cX10_act 162 = .ok (.if_icmp .ne (-81), 3) := dn_160 wX10_act_c 255 175 rfl (by decide)
theorem dX10_act_165 : decode cX10_act 165 = .ok (.aload_n 0, 1) := dw_42 wX10_act_c rfl
theorem dX10_act_166 : decode cX10_act 166 = .ok (.iconst 0, 1) := dw_3 wX10_act_c rfl
theorem dX10_act_167 : decode cX10_act 167 = .ok (.aload_n 0, 1) := dw_42 wX10_act_c rfl
theorem dX10_act_168 : decode cX10_act 168 = .ok (.getfield 245, 3) := dw_180 wX10_act_c 0 245 rfl rfl
theorem dX10_act_171 : decode cX10_act 171 = .ok (.invokevirtual 255, 3) := dw_182 wX10_act_c 0 255 rfl rfl
theorem dX10_act_174 : decode cX10_act 174 = .ok (.istore_n 2, 1) := dw_61 wX10_act_c rfl
theorem dX10_act_175 : decode cX10_act 175 = .ok (.goto (-94), 3) := dn_167 wX10_act_c 255 162 rfl (by decide)
theorem dX10_act_178 : decode cX10_act 178 = .ok (.aload_n 0, 1) := dw_42 wX10_act_c rfl
theorem dX10_act_179 : decode cX10_act 179 = .ok (.iconst 0, 1) := dw_3 wX10_act_c rfl
theorem dX10_act_180 : decode cX10_act 180 = .ok (.putfield 236, 3) := dw_181 wX10_act_c 0 236 rfl rfl
theorem dX10_act_183 : decode cX10_act 183 = .ok (.iload_n 2, 1) := dw_28 wX10_act_c rfl
theorem dX10_act_184 : decode cX10_act 184 = .ok (.ifCond .ne 11, 3) := dw_154 wX10_act_c 0 11 rfl rfl rfl
theorem dX10_act_187 : decode cX10_act 187 = .ok (.bipush (-2), 2) := dn_16 wX10_act_c 254 rfl (by decide)
theorem dX10_act_189 : decode cX10_act 189 = .ok (.aload_n 0, 1) := dw_42 wX10_act_c rfl
theorem dX10_act_190 : decode cX10_act 190 = .ok (.getfield 242, 3) := dw_180 wX10_act_c 0 242 rfl rfl
theorem dX10_act_193 : decode cX10_act 193 = .ok (.isub, 1) := dw_100 wX10_act_c rfl
theorem dX10_act_194 : decode cX10_act 194 = .ok (.ireturn, 1) := dw_172 wX10_act_c rfl
theorem dX10_act_195 : decode cX10_act 195 = .ok (.aload_n 0, 1) := dw_42 wX10_act_c rfl
theorem dX10_act_196 : decode cX10_act 196 = .ok (.dup, 1) := dw_89 wX10_act_c rfl
theorem dX10_act_197 : decode cX10_act 197 = .ok (.getfield 321, 3) := dw_180 wX10_act_c 1 65 rfl rfl
theorem dX10_act_200 : decode cX10_act 200 = .ok (.iconst 1, 1) := dw_4 wX10_act_c rfl
theorem dX10_act_201 : decode cX10_act 201 = .ok (.iadd, 1) := dw_96 wX10_act_c rfl
theorem dX10_act_202 : decode cX10_act 202 = .ok (.putfield 321, 3) := dw_181 wX10_act_c 1 65 rfl rfl
theorem dX10_act_205 : decode cX10_act 205 = .ok (.aload_n 0, 1) := dw_42 wX10_act_c rfl
theorem dX10_act_206 : decode cX10_act 206 = .ok (.getfield 7, 3) := dw_180 wX10_act_c 0 7 rfl rfl
theorem dX10_act_209 : decode cX10_act 209 = .ok (.aload_n 0, 1) := dw_42 wX10_act_c rfl
theorem dX10_act_210 : decode cX10_act 210 = .ok (.getfield 321, 3) := dw_180 wX10_act_c 1 65 rfl rfl
theorem dX10_act_213 : decode cX10_act 213 = .ok (.iload_n 1, 1) := dw_27 wX10_act_c rfl
theorem dX10_act_214 : decode cX10_act 214 = .ok (.iastore, 1) := dw_79 wX10_act_c rfl
theorem dX10_act_215 : decode cX10_act 215 = .ok (.iconst 0, 1) := dw_3 wX10_act_c rfl
theorem dX10_act_216 : decode cX10_act 216 = .ok (.istore 4, 2) := dw_54 wX10_act_c 4 rfl
theorem dX10_act_218 : decode cX10_act 218 = .ok (.iload 4, 2) := dw_21 wX10_act_c 4 rfl
theorem dX10_act_220 : decode cX10_act 220 = .ok (.bipush 13, 2) := dw_16 wX10_act_c 13 rfl rfl rfl
theorem dX10_act_222 : decode cX10_act 222 = .ok (.if_icmp .ge 31, 3) := dw_162 wX10_act_c 0 31 rfl rfl rfl
theorem dX10_act_225 : decode cX10_act 225 = .ok (.aload_n 0, 1) := dw_42 wX10_act_c rfl
theorem dX10_act_226 : decode cX10_act 226 = .ok (.getfield 13, 3) := dw_180 wX10_act_c 0 13 rfl rfl
theorem dX10_act_229 : decode cX10_act 229 = .ok (.bipush 13, 2) := dw_16 wX10_act_c 13 rfl rfl rfl
theorem dX10_act_231 : decode cX10_act 231 = .ok (.aload_n 0, 1) := dw_42 wX10_act_c rfl
theorem dX10_act_232 : decode cX10_act 232 = .ok (.getfield 321, 3) := dw_180 wX10_act_c 1 65 rfl rfl
theorem dX10_act_235 : decode cX10_act 235 = .ok (.imul, 1) := dw_104 wX10_act_c rfl
theorem dX10_act_236 : decode cX10_act 236 = .ok (.iload 4, 2) := dw_21 wX10_act_c 4 rfl
theorem dX10_act_238 : decode cX10_act 238 = .ok (.iadd, 1) := dw_96 wX10_act_c rfl
theorem dX10_act_239 : decode cX10_act 239 = .ok (.aload_n 0, 1) := dw_42 wX10_act_c rfl
theorem dX10_act_240 : decode cX10_act 240 = .ok (.getfield 26, 3) := dw_180 wX10_act_c 0 26 rfl rfl
theorem dX10_act_243 : decode cX10_act 243 = .ok (.iload 4, 2) := dw_21 wX10_act_c 4 rfl
theorem dX10_act_245 : decode cX10_act 245 = .ok (.iaload, 1) := dw_46 wX10_act_c rfl
theorem dX10_act_246 : decode cX10_act 246 = .ok (.iastore, 1) := dw_79 wX10_act_c rfl
theorem dX10_act_247 : decode cX10_act 247 = .ok (.iinc 4 1, 3) := dw_132 wX10_act_c 4 1 rfl rfl rfl
theorem dX10_act_250 : decode cX10_act 250 = .ok (.goto (-32), 3) := dn_167 wX10_act_c 255 224 rfl (by decide)
theorem dX10_act_253 : decode cX10_act 253 = .ok (.aload_n 0, 1) := dw_42 wX10_act_c rfl
theorem dX10_act_254 : decode cX10_act 254 = .ok (.aload_n 0, 1) := dw_42 wX10_act_c rfl
theorem dX10_act_255 : decode cX10_act 255 = .ok (.getfield 321, 3) := dw_180 wX10_act_c 1 65 rfl rfl
theorem dX10_act_258 : decode cX10_act 258 = .ok (.invokevirtual 224, 3) := dw_182 wX10_act_c 0 224 rfl rfl
theorem dX10_act_261 : decode cX10_act 261 = .ok (.aload_n 0, 1) := dw_42 wX10_act_c rfl
theorem dX10_act_262 : decode cX10_act 262 = .ok (.getfield 321, 3) := dw_180 wX10_act_c 1 65 rfl rfl
theorem dX10_act_265 : decode cX10_act 265 = .ok (.iconst 1, 1) := dw_4 wX10_act_c rfl
theorem dX10_act_266 : decode cX10_act 266 = .ok (.isub, 1) := dw_100 wX10_act_c rfl
theorem dX10_act_267 : decode cX10_act 267 = .ok (.ireturn, 1) := dw_172 wX10_act_c rfl
end
section
def wNX10_summons : Nat := 537502995505693162262045172235868104528075500785011478927205278266915766275022648732373430412606332038359346682270392456860070676344049613703355178
theorem wX10_summons_c : hz_cd cX10_summons wNX10_summons 61 := ⟨by decide +kernel, by decide +kernel⟩
theorem dX10_summons_0 : decode cX10_summons 0 = .ok (.aload_n 0, 1) := dw_42 wX10_summons_c rfl
theorem dX10_summons_1 : decode cX10_summons 1 = .ok (.iload_n 1, 1) := dw_27 wX10_summons_c rfl
theorem dX10_summons_2 : decode cX10_summons 2 = .ok (.invokevirtual 370, 3) := dw_182 wX10_summons_c 1 114 rfl rfl
theorem dX10_summons_5 : decode cX10_summons 5 = .ok (.ifCond .eq 23, 3) := dw_153 wX10_summons_c 0 23 rfl rfl rfl
theorem dX10_summons_8 : decode cX10_summons 8 = .ok (.aload_n 0, 1) := dw_42 wX10_summons_c rfl
theorem dX10_summons_9 : decode cX10_summons 9 = .ok (.getfield 108, 3) := dw_180 wX10_summons_c 0 108 rfl rfl
theorem dX10_summons_12 : decode cX10_summons 12 = .ok (.iload_n 1, 1) := dw_27 wX10_summons_c rfl
theorem dX10_summons_13 : decode cX10_summons 13 = .ok (.iaload, 1) := dw_46 wX10_summons_c rfl
theorem dX10_summons_14 : decode cX10_summons 14 = .ok (.iconst (-1), 1) := dw_2 wX10_summons_c rfl
theorem dX10_summons_15 : decode cX10_summons 15 = .ok (.if_icmp .ne 13, 3) := dw_160 wX10_summons_c 0 13 rfl rfl rfl
theorem dX10_summons_18 : decode cX10_summons 18 = .ok (.aload_n 0, 1) := dw_42 wX10_summons_c rfl
theorem dX10_summons_19 : decode cX10_summons 19 = .ok (.getfield 111, 3) := dw_180 wX10_summons_c 0 111 rfl rfl
theorem dX10_summons_22 : decode cX10_summons 22 = .ok (.iload_n 1, 1) := dw_27 wX10_summons_c rfl
theorem dX10_summons_23 : decode cX10_summons 23 = .ok (.iaload, 1) := dw_46 wX10_summons_c rfl
theorem dX10_summons_24 : decode cX10_summons 24 = .ok (.iconst (-1), 1) := dw_2 wX10_summons_c rfl
theorem dX10_summons_25 : decode cX10_summons 25 = .ok (.if_icmp .eq 5, 3) := dw_159 wX10_summons_c 0 5 rfl rfl rfl
theorem dX10_summons_28 : decode cX10_summons 28 = .ok (.iconst (-1), 1) := dw_2 wX10_summons_c rfl
theorem dX10_summons_29 : decode cX10_summons 29 = .ok (.ireturn, 1) := dw_172 wX10_summons_c rfl
theorem dX10_summons_30 : decode cX10_summons 30 = .ok (.aload_n 0, 1) := dw_42 wX10_summons_c rfl
theorem dX10_summons_31 : decode cX10_summons 31 = .ok (.getfield 105, 3) := dw_180 wX10_summons_c 0 105 rfl rfl
theorem dX10_summons_34 : decode cX10_summons 34 = .ok (.iload_n 1, 1) := dw_27 wX10_summons_c rfl
theorem dX10_summons_35 : decode cX10_summons 35 = .ok (.dup2, 1) := dw_92 wX10_summons_c rfl
theorem dX10_summons_36 : decode cX10_summons 36 = .ok (.iaload, 1) := dw_46 wX10_summons_c rfl
theorem dX10_summons_37 : decode cX10_summons 37 = .ok (.iconst 1, 1) := dw_4 wX10_summons_c rfl
theorem dX10_summons_38 : decode cX10_summons 38 = .ok (.iadd, 1) := dw_96 wX10_summons_c rfl
theorem dX10_summons_39 : decode cX10_summons 39 = .ok (.iastore, 1) := dw_79 wX10_summons_c rfl
theorem dX10_summons_40 : decode cX10_summons 40 = .ok (.iload_n 2, 1) := dw_28 wX10_summons_c rfl
theorem dX10_summons_41 : decode cX10_summons 41 = .ok (.ifCond .eq 13, 3) := dw_153 wX10_summons_c 0 13 rfl rfl rfl
theorem dX10_summons_44 : decode cX10_summons 44 = .ok (.aload_n 0, 1) := dw_42 wX10_summons_c rfl
theorem dX10_summons_45 : decode cX10_summons 45 = .ok (.getfield 108, 3) := dw_180 wX10_summons_c 0 108 rfl rfl
theorem dX10_summons_48 : decode cX10_summons 48 = .ok (.iload_n 1, 1) := dw_27 wX10_summons_c rfl
theorem dX10_summons_49 : decode cX10_summons 49 = .ok (.aload_n 0, 1) := dw_42 wX10_summons_c rfl
theorem dX10_summons_50 : decode cX10_summons 50 = .ok (.getfield 232, 3) := dw_180 wX10_summons_c 0 232 rfl rfl
theorem dX10_summons_53 : decode cX10_summons 53 = .ok (.iastore, 1) := dw_79 wX10_summons_c rfl
theorem dX10_summons_54 : decode cX10_summons 54 = .ok (.aload_n 0, 1) := dw_42 wX10_summons_c rfl
theorem dX10_summons_55 : decode cX10_summons 55 = .ok (.getfield 105, 3) := dw_180 wX10_summons_c 0 105 rfl rfl
theorem dX10_summons_58 : decode cX10_summons 58 = .ok (.iload_n 1, 1) := dw_27 wX10_summons_c rfl
theorem dX10_summons_59 : decode cX10_summons 59 = .ok (.iaload, 1) := dw_46 wX10_summons_c rfl
theorem dX10_summons_60 : decode cX10_summons 60 = .ok (.ireturn, 1) := dw_172 wX10_summons_c rfl
end
section
def wNX10_isSo : Nat := 3256512975153195686673397396021529570270166237637785652349524487305002611201459294137119498874033615798774307121107917763193095541755438788339454476450513838487573688602347727551807612590000736409433138265481168973677347983458616497326652231336625866144607695643523357613109184749773098575062643391463403300051706451553928293701655981961277706343866628851841837081176133645354
theorem wX10_isSo_c : hz_cd cX10_isSo wNX10_isSo 156 := ⟨by decide +kernel, by decide +kernel⟩
theorem dX10_isSo_0 : decode cX10_isSo 0 = .ok (.aload_n 0, 1) := dw_42 wX10_isSo_c rfl
theorem dX10_isSo_1 : decode cX10_isSo 1 = .ok (.getfield 129, 3) := dw_180 wX10_isSo_c 0 129 rfl rfl
theorem dX10_isSo_4 : decode cX10_isSo 4 = .ok (.bipush 8, 2) := dw_16 wX10_isSo_c 8 rfl rfl rfl
theorem dX10_isSo_6 : decode cX10_isSo 6 = .ok (.iload_n 1, 1) := dw_27 wX10_isSo_c rfl
theorem dX10_isSo_7 : decode cX10_isSo 7 = .ok (.imul, 1) := dw_104 wX10_isSo_c rfl
theorem dX10_isSo_8 : decode cX10_isSo 8 = .ok (.iload_n 2, 1) := dw_28 wX10_isSo_c rfl
theorem dX10_isSo_9 : decode cX10_isSo 9 = .ok (.ldc_w 268, 3) := dw_19 wX10_isSo_c 1 12 rfl rfl
theorem dX10_isSo_12 : decode cX10_isSo 12 = .ok (.idiv, 1) := dw_108 wX10_isSo_c rfl
theorem dX10_isSo_13 : decode cX10_isSo 13 = .ok (.iadd, 1) := dw_96 wX10_isSo_c rfl
theorem dX10_isSo_14 : decode cX10_isSo 14 = .ok (.iconst 1, 1) := dw_4 wX10_isSo_c rfl
theorem dX10_isSo_15 : decode cX10_isSo 15 = .ok (.isub, 1) := dw_100 wX10_isSo_c rfl
theorem dX10_isSo_16 : decode cX10_isSo 16 = .ok (.iaload, 1) := dw_46 wX10_isSo_c rfl
theorem dX10_isSo_17 : decode cX10_isSo 17 = .ok (.istore_n 3, 1) := dw_62 wX10_isSo_c rfl
theorem dX10_isSo_18 : decode cX10_isSo 18 = .ok (.iload_n 2, 1) := dw_28 wX10_isSo_c rfl
theorem dX10_isSo_19 : decode cX10_isSo 19 = .ok (.ldc_w 269, 3) := dw_19 wX10_isSo_c 1 13 rfl rfl
theorem dX10_isSo_22 : decode cX10_isSo 22 = .ok (.irem, 1) := dw_112 wX10_isSo_c rfl
theorem dX10_isSo_23 : decode cX10_isSo 23 = .ok (.istore 4, 2) := dw_54 wX10_isSo_c 4 rfl
theorem dX10_isSo_25 : decode cX10_isSo 25 = .ok (.iload 4, 2) := dw_21 wX10_isSo_c 4 rfl
theorem dX10_isSo_27 : decode cX10_isSo 27 = .ok (.sipush 10000, 3) := dw_17 wX10_isSo_c 39 16 rfl rfl rfl
theorem dX10_isSo_30 : decode cX10_isSo 30 = .ok (.if_icmp .lt 22, 3) := dw_161 wX10_isSo_c 0 22 rfl rfl rfl
theorem dX10_isSo_33 : decode cX10_isSo 33 = .ok (.aload_n 0, 1) := dw_42 wX10_isSo_c rfl
theorem dX10_isSo_34 : decode cX10_isSo 34 = .ok (.getfield 129, 3) := dw_180 wX10_isSo_c 0 129 rfl rfl
theorem dX10_isSo_37 : decode cX10_isSo 37 = .ok (.bipush 8, 2) := dw_16 wX10_isSo_c 8 rfl rfl rfl
theorem dX10_isSo_39 : decode cX10_isSo 39 = .ok (.iload_n 1, 1) := dw_27 wX10_isSo_c rfl
theorem dX10_isSo_40 : decode cX10_isSo 40 = .ok (.imul, 1) := dw_104 wX10_isSo_c rfl
theorem dX10_isSo_41 : decode cX10_isSo 41 = .ok (.iload 4, 2) := dw_21 wX10_isSo_c 4 rfl
theorem dX10_isSo_43 : decode cX10_isSo 43 = .ok (.iadd, 1) := dw_96 wX10_isSo_c rfl
theorem dX10_isSo_44 : decode cX10_isSo 44 = .ok (.sipush 10000, 3) := dw_17 wX10_isSo_c 39 16 rfl rfl rfl
theorem dX10_isSo_47 : decode cX10_isSo 47 = .ok (.isub, 1) := dw_100 wX10_isSo_c rfl
theorem dX10_isSo_48 : decode cX10_isSo 48 = .ok (.iaload, 1) := dw_46 wX10_isSo_c rfl
theorem dX10_isSo_49 : decode cX10_isSo 49 = .ok (.goto 5, 3) := dw_167 wX10_isSo_c 0 5 rfl rfl rfl
theorem dX10_isSo_52 : decode cX10_isSo 52 = .ok (.iload 4, 2) := dw_21 wX10_isSo_c 4 rfl
theorem dX10_isSo_54 : decode cX10_isSo 54 = .ok (.istore 5, 2) := dw_54 wX10_isSo_c 5 rfl
theorem dX10_isSo_56 : decode cX10_isSo 56 = .ok (.iload_n 2, 1) := dw_28 wX10_isSo_c rfl
theorem dX10_isSo_57 : decode cX10_isSo 57 = .ok (.ldc_w 269, 3) := dw_19 wX10_isSo_c 1 13 rfl rfl
theorem dX10_isSo_60 : decode cX10_isSo 60 = .ok (.idiv, 1) := dw_108 wX10_isSo_c rfl
theorem dX10_isSo_61 : decode cX10_isSo 61 = .ok (.bipush 10, 2) := dw_16 wX10_isSo_c 10 rfl rfl rfl
theorem dX10_isSo_63 : decode cX10_isSo 63 = .ok (.irem, 1) := dw_112 wX10_isSo_c rfl
theorem dX10_isSo_64 : decode cX10_isSo 64 = .ok (.tableswitch 80 0 3 #[32, 44, 56, 68], 32) := by decide +kernel
theorem dX10_isSo_96 : decode cX10_isSo 96 = .ok (.iload_n 3, 1) := dw_29 wX10_isSo_c rfl
theorem dX10_isSo_97 : decode cX10_isSo 97 = .ok (.iload 5, 2) := dw_21 wX10_isSo_c 5 rfl
theorem dX10_isSo_99 : decode cX10_isSo 99 = .ok (.if_icmp .ge 7, 3) := dw_162 wX10_isSo_c 0 7 rfl rfl rfl
theorem dX10_isSo_102 : decode cX10_isSo 102 = .ok (.iconst 1, 1) := dw_4 wX10_isSo_c rfl
theorem dX10_isSo_103 : decode cX10_isSo 103 = .ok (.goto 4, 3) := dw_167 wX10_isSo_c 0 4 rfl rfl rfl
theorem dX10_isSo_106 : decode cX10_isSo 106 = .ok (.iconst 0, 1) := dw_3 wX10_isSo_c rfl
theorem dX10_isSo_107 : decode cX10_isSo 107 = .ok (.ireturn, 1) := dw_172 wX10_isSo_c rfl
theorem dX10_isSo_108 : decode cX10_isSo 108 = .ok (.iload_n 3, 1) := dw_29 wX10_isSo_c rfl
theorem dX10_isSo_109 : decode cX10_isSo 109 = .ok (.iload 5, 2) := dw_21 wX10_isSo_c 5 rfl
theorem dX10_isSo_111 : decode cX10_isSo 111 = .ok (.if_icmp .gt 7, 3) := dw_163 wX10_isSo_c 0 7 rfl rfl rfl
theorem dX10_isSo_114 : decode cX10_isSo 114 = .ok (.iconst 1, 1) := dw_4 wX10_isSo_c rfl
theorem dX10_isSo_115 : decode cX10_isSo 115 = .ok (.goto 4, 3) := dw_167 wX10_isSo_c 0 4 rfl rfl rfl
theorem dX10_isSo_118 : decode cX10_isSo 118 = .ok (.iconst 0, 1) := dw_3 wX10_isSo_c rfl
theorem dX10_isSo_119 : decode cX10_isSo 119 = .ok (.ireturn, 1) := dw_172 wX10_isSo_c rfl
theorem dX10_isSo_120 : decode cX10_isSo 120 = .ok (.iload_n 3, 1) := dw_29 wX10_isSo_c rfl
theorem dX10_isSo_121 : decode cX10_isSo 121 = .ok (.iload 5, 2) := dw_21 wX10_isSo_c 5 rfl
theorem dX10_isSo_123 : decode cX10_isSo 123 = .ok (.if_icmp .ne 7, 3) := dw_160 wX10_isSo_c 0 7 rfl rfl rfl
theorem dX10_isSo_126 : decode cX10_isSo 126 = .ok (.iconst 1, 1) := dw_4 wX10_isSo_c rfl
theorem dX10_isSo_127 : decode cX10_isSo 127 = .ok (.goto 4, 3) := dw_167 wX10_isSo_c 0 4 rfl rfl rfl
theorem dX10_isSo_130 : decode cX10_isSo 130 = .ok (.iconst 0, 1) := dw_3 wX10_isSo_c rfl
theorem dX10_isSo_131 : decode cX10_isSo 131 = .ok (.ireturn, 1) := dw_172 wX10_isSo_c rfl
theorem dX10_isSo_132 : decode cX10_isSo 132 = .ok (.iload_n 3, 1) := dw_29 wX10_isSo_c rfl
theorem dX10_isSo_133 : decode cX10_isSo 133 = .ok (.iload 5, 2) := dw_21 wX10_isSo_c 5 rfl
theorem dX10_isSo_135 : decode cX10_isSo 135 = .ok (.if_icmp .lt 7, 3) := dw_161 wX10_isSo_c 0 7 rfl rfl rfl
theorem dX10_isSo_138 : decode cX10_isSo 138 = .ok (.iconst 1, 1) := dw_4 wX10_isSo_c rfl
theorem dX10_isSo_139 : decode cX10_isSo 139 = .ok (.goto 4, 3) := dw_167 wX10_isSo_c 0 4 rfl rfl rfl
theorem dX10_isSo_142 : decode cX10_isSo 142 = .ok (.iconst 0, 1) := dw_3 wX10_isSo_c rfl
theorem dX10_isSo_143 : decode cX10_isSo 143 = .ok (.ireturn, 1) := dw_172 wX10_isSo_c rfl
theorem dX10_isSo_144 : decode cX10_isSo 144 = .ok (.iload_n 3, 1) := dw_29 wX10_isSo_c rfl
theorem dX10_isSo_145 : decode cX10_isSo 145 = .ok (.iload 5, 2) := dw_21 wX10_isSo_c 5 rfl
theorem dX10_isSo_147 : decode cX10_isSo 147 = .ok (.if_icmp .le 7, 3) := dw_164 wX10_isSo_c 0 7 rfl rfl rfl
theorem dX10_isSo_150 : decode cX10_isSo 150 = .ok (.iconst 1, 1) := dw_4 wX10_isSo_c rfl
theorem dX10_isSo_151 : decode cX10_isSo 151 = .ok (.goto 4, 3) := dw_167 wX10_isSo_c 0 4 rfl rfl rfl
theorem dX10_isSo_154 : decode cX10_isSo 154 = .ok (.iconst 0, 1) := dw_3 wX10_isSo_c rfl
theorem dX10_isSo_155 : decode cX10_isSo 155 = .ok (.ireturn, 1) := dw_172 wX10_isSo_c rfl
def wNX10_isProved : Nat := 72701825441719444105398154638704499635968221466233670212003103328922945476931715660904213289124474481078614567975175021660924237818366588923067131835069452323801764778143075751997010706774698940631810181542644971757815502216645752463949682299357914212147884380243071827369738903052864382427525509350178264863266501119729827737595235355339192155785572651701761756471900118083588030582918510211932005224618769665692483075
theorem wX10_isProved_c : hz_cd cX10_isProved wNX10_isProved 174 := ⟨by decide +kernel, by decide +kernel⟩
theorem dX10_isProved_0 : decode cX10_isProved 0 = .ok (.iconst 0, 1) := dw_3 wX10_isProved_c rfl
theorem dX10_isProved_1 : decode cX10_isProved 1 = .ok (.istore_n 3, 1) := dw_62 wX10_isProved_c rfl
theorem dX10_isProved_2 : decode cX10_isProved 2 = .ok (.iconst 0, 1) := dw_3 wX10_isProved_c rfl
theorem dX10_isProved_3 : decode cX10_isProved 3 = .ok (.istore 4, 2) := dw_54 wX10_isProved_c 4 rfl
theorem dX10_isProved_5 : decode cX10_isProved 5 = .ok (.iload 4, 2) := dw_21 wX10_isProved_c 4 rfl
theorem dX10_isProved_7 : decode cX10_isProved 7 = .ok (.aload_n 0, 1) := dw_42 wX10_isProved_c rfl
theorem dX10_isProved_8 : decode cX10_isProved 8 = .ok (.getfield 16, 3) := dw_180 wX10_isProved_c 0 16 rfl rfl
theorem dX10_isProved_11 : decode cX10_isProved 11 = .ok (.iload_n 2, 1) := dw_28 wX10_isProved_c rfl
theorem dX10_isProved_12 : decode cX10_isProved 12 = .ok (.iaload, 1) := dw_46 wX10_isProved_c rfl
theorem dX10_isProved_13 : decode cX10_isProved 13 = .ok (.if_icmp .ge 154, 3) := dw_162 wX10_isProved_c 0 154 rfl rfl rfl
theorem dX10_isProved_16 : decode cX10_isProved 16 = .ok (.aload_n 0, 1) := dw_42 wX10_isProved_c rfl
theorem dX10_isProved_17 : decode cX10_isProved 17 = .ok (.getfield 19, 3) := dw_180 wX10_isProved_c 0 19 rfl rfl
theorem dX10_isProved_20 : decode cX10_isProved 20 = .ok (.sipush 128, 3) := dw_17 wX10_isProved_c 0 128 rfl rfl rfl
theorem dX10_isProved_23 : decode cX10_isProved 23 = .ok (.iload_n 2, 1) := dw_28 wX10_isProved_c rfl
theorem dX10_isProved_24 : decode cX10_isProved 24 = .ok (.imul, 1) := dw_104 wX10_isProved_c rfl
theorem dX10_isProved_25 : decode cX10_isProved 25 = .ok (.iload 4, 2) := dw_21 wX10_isProved_c 4 rfl
theorem dX10_isProved_27 : decode cX10_isProved 27 = .ok (.iadd, 1) := dw_96 wX10_isProved_c rfl
theorem dX10_isProved_28 : decode cX10_isProved 28 = .ok (.iaload, 1) := dw_46 wX10_isProved_c rfl
theorem dX10_isProved_29 : decode cX10_isProved 29 = .ok (.istore 5, 2) := dw_54 wX10_isProved_c 5 rfl
theorem dX10_isProved_31 : decode cX10_isProved 31 = .ok (.iload 5, 2) := dw_21 wX10_isProved_c 5 rfl
theorem dX10_isProved_33 : decode cX10_isProved 33 = .ok (.ldc_w 268, 3) := dw_19 wX10_isProved_c 1 12 rfl rfl
theorem dX10_isProved_36 : decode cX10_isProved 36 = .ok (.if_icmp .lt 22, 3) := dw_161 wX10_isProved_c 0 22 rfl rfl rfl
theorem dX10_isProved_39 : decode cX10_isProved 39 = .ok (.aload_n 0, 1) := dw_42 wX10_isProved_c rfl
theorem dX10_isProved_40 : decode cX10_isProved 40 = .ok (.getfield 162, 3) := dw_180 wX10_isProved_c 0 162 rfl rfl
theorem dX10_isProved_43 : decode cX10_isProved 43 = .ok (.iload_n 3, 1) := dw_29 wX10_isProved_c rfl
theorem dX10_isProved_44 : decode cX10_isProved 44 = .ok (.aload_n 0, 1) := dw_42 wX10_isProved_c rfl
theorem dX10_isProved_45 : decode cX10_isProved 45 = .ok (.iload_n 1, 1) := dw_27 wX10_isProved_c rfl
theorem dX10_isProved_46 : decode cX10_isProved 46 = .ok (.iload 5, 2) := dw_21 wX10_isProved_c 5 rfl
theorem dX10_isProved_48 : decode cX10_isProved 48 = .ok (.invokevirtual 373, 3) := dw_182 wX10_isProved_c 1 117 rfl rfl
theorem dX10_isProved_51 : decode cX10_isProved 51 = .ok (.bastore, 1) := dw_84 wX10_isProved_c rfl
theorem dX10_isProved_52 : decode cX10_isProved 52 = .ok (.iinc 3 1, 3) := dw_132 wX10_isProved_c 3 1 rfl rfl rfl
theorem dX10_isProved_55 : decode cX10_isProved 55 = .ok (.goto 106, 3) := dw_167 wX10_isProved_c 0 106 rfl rfl rfl
theorem dX10_isProved_58 : decode cX10_isProved 58 = .ok (.iload 5, 2) := dw_21 wX10_isProved_c 5 rfl
theorem dX10_isProved_60 : decode cX10_isProved 60 = .ok (.iconst 2, 1) := dw_5 wX10_isProved_c rfl
theorem dX10_isProved_61 : decode cX10_isProved 61 = .ok (.if_icmp .ne 30, 3) := dw_160 wX10_isProved_c 0 30 rfl rfl rfl
theorem dX10_isProved_64 : decode cX10_isProved 64 = .ok (.aload_n 0, 1) := dw_42 wX10_isProved_c rfl
theorem dX10_isProved_65 : decode cX10_isProved 65 = .ok (.getfield 162, 3) := dw_180 wX10_isProved_c 0 162 rfl rfl
theorem dX10_isProved_68 : decode cX10_isProved 68 = .ok (.iload_n 3, 1) := dw_29 wX10_isProved_c rfl
theorem dX10_isProved_69 : decode cX10_isProved 69 = .ok (.iconst 1, 1) := dw_4 wX10_isProved_c rfl
theorem dX10_isProved_70 : decode cX10_isProved 70 = .ok (.isub, 1) := dw_100 wX10_isProved_c rfl
theorem dX10_isProved_71 : decode cX10_isProved 71 = .ok (.aload_n 0, 1) := dw_42 wX10_isProved_c rfl
theorem dX10_isProved_72 : decode cX10_isProved 72 = .ok (.getfield 162, 3) := dw_180 wX10_isProved_c 0 162 rfl rfl
theorem dX10_isProved_75 : decode cX10_isProved 75 = .ok (.iload_n 3, 1) := dw_29 wX10_isProved_c rfl
theorem dX10_isProved_76 : decode cX10_isProved 76 = .ok (.iconst 1, 1) := dw_4 wX10_isProved_c rfl
theorem dX10_isProved_77 : decode cX10_isProved 77 = .ok (.isub, 1) := dw_100 wX10_isProved_c rfl
theorem dX10_isProved_78 : decode cX10_isProved 78 = .ok (.baload, 1) := dw_51 wX10_isProved_c rfl
theorem dX10_isProved_79 : decode cX10_isProved 79 = .ok (.ifCond .ne 7, 3) := dw_154 wX10_isProved_c 0 7 rfl rfl rfl
theorem dX10_isProved_82 : decode cX10_isProved 82 = .ok (.iconst 1, 1) := dw_4 wX10_isProved_c rfl
theorem dX10_isProved_83 : decode cX10_isProved 83 = .ok (.goto 4, 3) := dw_167 wX10_isProved_c 0 4 rfl rfl rfl
theorem dX10_isProved_86 : decode cX10_isProved 86 = .ok (.iconst 0, 1) := dw_3 wX10_isProved_c rfl
theorem dX10_isProved_87 : decode cX10_isProved 87 = .ok (.bastore, 1) := dw_84 wX10_isProved_c rfl
theorem dX10_isProved_88 : decode cX10_isProved 88 = .ok (.goto 73, 3) := dw_167 wX10_isProved_c 0 73 rfl rfl rfl
theorem dX10_isProved_91 : decode cX10_isProved 91 = .ok (.iinc 3 (-1), 3) := dn_132 wX10_isProved_c 3 255 rfl (by decide)
theorem dX10_isProved_94 : decode cX10_isProved 94 = .ok (.aload_n 0, 1) := dw_42 wX10_isProved_c rfl
theorem dX10_isProved_95 : decode cX10_isProved 95 = .ok (.getfield 162, 3) := dw_180 wX10_isProved_c 0 162 rfl rfl
theorem dX10_isProved_98 : decode cX10_isProved 98 = .ok (.iload_n 3, 1) := dw_29 wX10_isProved_c rfl
theorem dX10_isProved_99 : decode cX10_isProved 99 = .ok (.iconst 1, 1) := dw_4 wX10_isProved_c rfl
theorem dX10_isProved_100 : decode cX10_isProved 100 = .ok (.isub, 1) := dw_100 wX10_isProved_c rfl
theorem dX10_isProved_101 : decode cX10_isProved 101 = .ok (.iload 5, 2) := dw_21 wX10_isProved_c 5 rfl
theorem dX10_isProved_103 : decode cX10_isProved 103 = .ok (.iconst 1, 1) := dw_4 wX10_isProved_c rfl
theorem dX10_isProved_104 : decode cX10_isProved 104 = .ok (.if_icmp .ne 31, 3) := dw_160 wX10_isProved_c 0 31 rfl rfl rfl
theorem dX10_isProved_107 : decode cX10_isProved 107 = .ok (.aload_n 0, 1) := dw_42 wX10_isProved_c rfl
theorem dX10_isProved_108 : decode cX10_isProved 108 = .ok (.getfield 162, 3) := dw_180 wX10_isProved_c 0 162 rfl rfl
theorem dX10_isProved_111 : decode cX10_isProved 111 = .ok (.iload_n 3, 1) := dw_29 wX10_isProved_c rfl
theorem dX10_isProved_112 : decode cX10_isProved 112 = .ok (.iconst 1, 1) := dw_4 wX10_isProved_c rfl
theorem dX10_isProved_113 : decode cX10_isProved 113 = .ok (.isub, 1) := dw_100 wX10_isProved_c rfl
theorem dX10_isProved_114 : decode cX10_isProved 114 = .ok (.baload, 1) := dw_51 wX10_isProved_c rfl
theorem dX10_isProved_115 : decode cX10_isProved 115 = .ok (.ifCond .eq 16, 3) := dw_153 wX10_isProved_c 0 16 rfl rfl rfl
theorem dX10_isProved_118 : decode cX10_isProved 118 = .ok (.aload_n 0, 1) := dw_42 wX10_isProved_c rfl
theorem dX10_isProved_119 : decode cX10_isProved 119 = .ok (.getfield 162, 3) := dw_180 wX10_isProved_c 0 162 rfl rfl
theorem dX10_isProved_122 : decode cX10_isProved 122 = .ok (.iload_n 3, 1) := dw_29 wX10_isProved_c rfl
theorem dX10_isProved_123 : decode cX10_isProved 123 = .ok (.baload, 1) := dw_51 wX10_isProved_c rfl
theorem dX10_isProved_124 : decode cX10_isProved 124 = .ok (.ifCond .eq 7, 3) := dw_153 wX10_isProved_c 0 7 rfl rfl rfl
theorem dX10_isProved_127 : decode cX10_isProved 127 = .ok (.iconst 1, 1) := dw_4 wX10_isProved_c rfl
theorem dX10_isProved_128 : decode cX10_isProved 128 = .ok (.goto 32, 3) := dw_167 wX10_isProved_c 0 32 rfl rfl rfl
theorem dX10_isProved_131 : decode cX10_isProved 131 = .ok (.iconst 0, 1) := dw_3 wX10_isProved_c rfl
theorem dX10_isProved_132 : decode cX10_isProved 132 = .ok (.goto 28, 3) := dw_167 wX10_isProved_c 0 28 rfl rfl rfl
theorem dX10_isProved_135 : decode cX10_isProved 135 = .ok (.aload_n 0, 1) := dw_42 wX10_isProved_c rfl
theorem dX10_isProved_136 : decode cX10_isProved 136 = .ok (.getfield 162, 3) := dw_180 wX10_isProved_c 0 162 rfl rfl
theorem dX10_isProved_139 : decode cX10_isProved 139 = .ok (.iload_n 3, 1) := dw_29 wX10_isProved_c rfl
theorem dX10_isProved_140 : decode cX10_isProved 140 = .ok (.iconst 1, 1) := dw_4 wX10_isProved_c rfl
theorem dX10_isProved_141 : decode cX10_isProved 141 = .ok (.isub, 1) := dw_100 wX10_isProved_c rfl
theorem dX10_isProved_142 : decode cX10_isProved 142 = .ok (.baload, 1) := dw_51 wX10_isProved_c rfl
theorem dX10_isProved_143 : decode cX10_isProved 143 = .ok (.ifCond .ne 12, 3) := dw_154 wX10_isProved_c 0 12 rfl rfl rfl
theorem dX10_isProved_146 : decode cX10_isProved 146 = .ok (.aload_n 0, 1) := dw_42 wX10_isProved_c rfl
theorem dX10_isProved_147 : decode cX10_isProved 147 = .ok (.getfield 162, 3) := dw_180 wX10_isProved_c 0 162 rfl rfl
theorem dX10_isProved_150 : decode cX10_isProved 150 = .ok (.iload_n 3, 1) := dw_29 wX10_isProved_c rfl
theorem dX10_isProved_151 : decode cX10_isProved 151 = .ok (.baload, 1) := dw_51 wX10_isProved_c rfl
theorem dX10_isProved_152 : decode cX10_isProved 152 = .ok (.ifCond .eq 7, 3) := dw_153 wX10_isProved_c 0 7 rfl rfl rfl
theorem dX10_isProved_155 : decode cX10_isProved 155 = .ok (.iconst 1, 1) := dw_4 wX10_isProved_c rfl
theorem dX10_isProved_156 : decode cX10_isProved 156 = .ok (.goto 4, 3) := dw_167 wX10_isProved_c 0 4 rfl rfl rfl
theorem dX10_isProved_159 : decode cX10_isProved 159 = .ok (.iconst 0, 1) := dw_3 wX10_isProved_c rfl
theorem dX10_isProved_160 : decode cX10_isProved 160 = .ok (.bastore, 1) := dw_84 wX10_isProved_c rfl
theorem dX10_isProved_161 : decode cX10_isProved 161 = .ok (.iinc 4 1, 3) := dw_132 wX10_isProved_c 4 1 rfl rfl rfl
theorem dX10_isProved_164 : decode cX10_isProved 164 = .ok (.goto (-159), 3) := dn_167 wX10_isProved_c 255 97 rfl (by decide)
theorem dX10_isProved_167 : decode cX10_isProved 167 = .ok (.aload_n 0, 1) := dw_42 wX10_isProved_c rfl
theorem dX10_isProved_168 : decode cX10_isProved 168 = .ok (.getfield 162, 3) := dw_180 wX10_isProved_c 0 162 rfl rfl
theorem dX10_isProved_171 : decode cX10_isProved 171 = .ok (.iconst 0, 1) := dw_3 wX10_isProved_c rfl
theorem dX10_isProved_172 : decode cX10_isProved 172 = .ok (.baload, 1) := dw_51 wX10_isProved_c rfl
theorem dX10_isProved_173 : decode cX10_isProved 173 = .ok (.ireturn, 1) := dw_172 wX10_isProved_c rfl
def wNX10_judges : Nat := 182740581015442745213072714719888058988136060064417008746051770079342849017229028380796720281900729700496283123850790284757473828794763163332290157857459322894591417356105644425414226986
theorem wX10_judges_c : hz_cd cX10_judges wNX10_judges 77 := ⟨by decide +kernel, by decide +kernel⟩
theorem dX10_judges_0 : decode cX10_judges 0 = .ok (.aload_n 0, 1) := dw_42 wX10_judges_c rfl
theorem dX10_judges_1 : decode cX10_judges 1 = .ok (.getfield 90, 3) := dw_180 wX10_judges_c 0 90 rfl rfl
theorem dX10_judges_4 : decode cX10_judges 4 = .ok (.iload_n 1, 1) := dw_27 wX10_judges_c rfl
theorem dX10_judges_5 : decode cX10_judges 5 = .ok (.iaload, 1) := dw_46 wX10_judges_c rfl
theorem dX10_judges_6 : decode cX10_judges 6 = .ok (.aload_n 0, 1) := dw_42 wX10_judges_c rfl
theorem dX10_judges_7 : decode cX10_judges 7 = .ok (.getfield 38, 3) := dw_180 wX10_judges_c 0 38 rfl rfl
theorem dX10_judges_10 : decode cX10_judges 10 = .ok (.aload_n 0, 1) := dw_42 wX10_judges_c rfl
theorem dX10_judges_11 : decode cX10_judges 11 = .ok (.getfield 84, 3) := dw_180 wX10_judges_c 0 84 rfl rfl
theorem dX10_judges_14 : decode cX10_judges 14 = .ok (.iload_n 1, 1) := dw_27 wX10_judges_c rfl
theorem dX10_judges_15 : decode cX10_judges 15 = .ok (.iaload, 1) := dw_46 wX10_judges_c rfl
theorem dX10_judges_16 : decode cX10_judges 16 = .ok (.iaload, 1) := dw_46 wX10_judges_c rfl
theorem dX10_judges_17 : decode cX10_judges 17 = .ok (.isub, 1) := dw_100 wX10_judges_c rfl
theorem dX10_judges_18 : decode cX10_judges 18 = .ok (.sipush 365, 3) := dw_17 wX10_judges_c 1 109 rfl rfl rfl
theorem dX10_judges_21 : decode cX10_judges 21 = .ok (.aload_n 0, 1) := dw_42 wX10_judges_c rfl
theorem dX10_judges_22 : decode cX10_judges 22 = .ok (.iload_n 2, 1) := dw_28 wX10_judges_c rfl
theorem dX10_judges_23 : decode cX10_judges 23 = .ok (.bipush 8, 2) := dw_16 wX10_judges_c 8 rfl rfl rfl
theorem dX10_judges_25 : decode cX10_judges 25 = .ok (.invokevirtual 333, 3) := dw_182 wX10_judges_c 1 77 rfl rfl
theorem dX10_judges_28 : decode cX10_judges 28 = .ok (.imul, 1) := dw_104 wX10_judges_c rfl
theorem dX10_judges_29 : decode cX10_judges 29 = .ok (.if_icmp .ge 5, 3) := dw_162 wX10_judges_c 0 5 rfl rfl rfl
theorem dX10_judges_32 : decode cX10_judges 32 = .ok (.iconst 1, 1) := dw_4 wX10_judges_c rfl
theorem dX10_judges_33 : decode cX10_judges 33 = .ok (.ireturn, 1) := dw_172 wX10_judges_c rfl
theorem dX10_judges_34 : decode cX10_judges 34 = .ok (.aload_n 0, 1) := dw_42 wX10_judges_c rfl
theorem dX10_judges_35 : decode cX10_judges 35 = .ok (.getfield 87, 3) := dw_180 wX10_judges_c 0 87 rfl rfl
theorem dX10_judges_38 : decode cX10_judges 38 = .ok (.iload_n 1, 1) := dw_27 wX10_judges_c rfl
theorem dX10_judges_39 : decode cX10_judges 39 = .ok (.iaload, 1) := dw_46 wX10_judges_c rfl
theorem dX10_judges_40 : decode cX10_judges 40 = .ok (.aload_n 0, 1) := dw_42 wX10_judges_c rfl
theorem dX10_judges_41 : decode cX10_judges 41 = .ok (.iload_n 2, 1) := dw_28 wX10_judges_c rfl
theorem dX10_judges_42 : decode cX10_judges 42 = .ok (.iconst 0, 1) := dw_3 wX10_judges_c rfl
theorem dX10_judges_43 : decode cX10_judges 43 = .ok (.invokevirtual 333, 3) := dw_182 wX10_judges_c 1 77 rfl rfl
theorem dX10_judges_46 : decode cX10_judges 46 = .ok (.if_icmp .le 5, 3) := dw_164 wX10_judges_c 0 5 rfl rfl rfl
theorem dX10_judges_49 : decode cX10_judges 49 = .ok (.iconst 2, 1) := dw_5 wX10_judges_c rfl
theorem dX10_judges_50 : decode cX10_judges 50 = .ok (.ireturn, 1) := dw_172 wX10_judges_c rfl
theorem dX10_judges_51 : decode cX10_judges 51 = .ok (.aload_n 0, 1) := dw_42 wX10_judges_c rfl
theorem dX10_judges_52 : decode cX10_judges 52 = .ok (.iload_n 1, 1) := dw_27 wX10_judges_c rfl
theorem dX10_judges_53 : decode cX10_judges 53 = .ok (.iload_n 2, 1) := dw_28 wX10_judges_c rfl
theorem dX10_judges_54 : decode cX10_judges 54 = .ok (.invokevirtual 376, 3) := dw_182 wX10_judges_c 1 120 rfl rfl
theorem dX10_judges_57 : decode cX10_judges 57 = .ok (.ifCond .eq 5, 3) := dw_153 wX10_judges_c 0 5 rfl rfl rfl
theorem dX10_judges_60 : decode cX10_judges 60 = .ok (.iconst 3, 1) := dw_6 wX10_judges_c rfl
theorem dX10_judges_61 : decode cX10_judges 61 = .ok (.ireturn, 1) := dw_172 wX10_judges_c rfl
theorem dX10_judges_62 : decode cX10_judges 62 = .ok (.aload_n 0, 1) := dw_42 wX10_judges_c rfl
theorem dX10_judges_63 : decode cX10_judges 63 = .ok (.iload_n 1, 1) := dw_27 wX10_judges_c rfl
theorem dX10_judges_64 : decode cX10_judges 64 = .ok (.iload_n 2, 1) := dw_28 wX10_judges_c rfl
theorem dX10_judges_65 : decode cX10_judges 65 = .ok (.invokevirtual 379, 3) := dw_182 wX10_judges_c 1 123 rfl rfl
theorem dX10_judges_68 : decode cX10_judges 68 = .ok (.ifCond .eq 7, 3) := dw_153 wX10_judges_c 0 7 rfl rfl rfl
theorem dX10_judges_71 : decode cX10_judges 71 = .ok (.iconst 5, 1) := dw_8 wX10_judges_c rfl
theorem dX10_judges_72 : decode cX10_judges 72 = .ok (.goto 4, 3) := dw_167 wX10_judges_c 0 4 rfl rfl rfl
theorem dX10_judges_75 : decode cX10_judges 75 = .ok (.iconst 4, 1) := dw_7 wX10_judges_c rfl
theorem dX10_judges_76 : decode cX10_judges 76 = .ok (.ireturn, 1) := dw_172 wX10_judges_c rfl
def wNX10_other : Nat := 176540197597148626048616902131439564136926856743804099131218683073123209428684027342694791103046742090274748267466479213760122856998209391681334374546460401506289909808620479765620285513161713125269252773199371934618529457001145187483773120899546044185424592453623482917151893964131403751920079852712788035123988197449500863976183579981936251891931727659547
theorem wX10_other_c : hz_cd cX10_other wNX10_other 148 := ⟨by decide +kernel, by decide +kernel⟩
theorem dX10_other_0 : decode cX10_other 0 = .ok (.iload_n 1, 1) := dw_27 wX10_other_c rfl
theorem dX10_other_1 : decode cX10_other 1 = .ok (.iconst (-1), 1) := dw_2 wX10_other_c rfl
theorem dX10_other_2 : decode cX10_other 2 = .ok (.aload_n 0, 1) := dw_42 wX10_other_c rfl
theorem dX10_other_3 : decode cX10_other 3 = .ok (.getfield 321, 3) := dw_180 wX10_other_c 1 65 rfl rfl
theorem dX10_other_6 : decode cX10_other 6 = .ok (.iconst 1, 1) := dw_4 wX10_other_c rfl
theorem dX10_other_7 : decode cX10_other 7 = .ok (.isub, 1) := dw_100 wX10_other_c rfl
theorem dX10_other_8 : decode cX10_other 8 = .ok (.invokestatic 228, 3) := dw_184 wX10_other_c 0 228 rfl rfl
theorem dX10_other_11 : decode cX10_other 11 = .ok (.ifCond .eq 13, 3) := dw_153 wX10_other_c 0 13 rfl rfl rfl
theorem dX10_other_14 : decode cX10_other 14 = .ok (.iload_n 2, 1) := dw_28 wX10_other_c rfl
theorem dX10_other_15 : decode cX10_other 15 = .ok (.iconst 1, 1) := dw_4 wX10_other_c rfl
theorem dX10_other_16 : decode cX10_other 16 = .ok (.bipush 6, 2) := dw_16 wX10_other_c 6 rfl rfl rfl
theorem dX10_other_18 : decode cX10_other 18 = .ok (.invokestatic 228, 3) := dw_184 wX10_other_c 0 228 rfl rfl
theorem dX10_other_21 : decode cX10_other 21 = .ok (.ifCond .ne 5, 3) := dw_154 wX10_other_c 0 5 rfl rfl rfl
theorem dX10_other_24 : decode cX10_other 24 = .ok (.iconst (-1), 1) := dw_2 wX10_other_c rfl
theorem dX10_other_25 : decode cX10_other 25 = .ok (.ireturn, 1) := dw_172 wX10_other_c rfl
theorem dX10_other_26 : decode cX10_other 26 = .ok (.iload_n 1, 1) := dw_27 wX10_other_c rfl
theorem dX10_other_27 : decode cX10_other 27 = .ok (.iconst 1, 1) := dw_4 wX10_other_c rfl
theorem dX10_other_28 : decode cX10_other 28 = .ok (.iadd, 1) := dw_96 wX10_other_c rfl
theorem dX10_other_29 : decode cX10_other 29 = .ok (.istore_n 3, 1) := dw_62 wX10_other_c rfl
theorem dX10_other_30 : decode cX10_other 30 = .ok (.iconst 0, 1) := dw_3 wX10_other_c rfl
theorem dX10_other_31 : decode cX10_other 31 = .ok (.istore 4, 2) := dw_54 wX10_other_c 4 rfl
theorem dX10_other_33 : decode cX10_other 33 = .ok (.iconst 0, 1) := dw_3 wX10_other_c rfl
theorem dX10_other_34 : decode cX10_other 34 = .ok (.istore 5, 2) := dw_54 wX10_other_c 5 rfl
theorem dX10_other_36 : decode cX10_other 36 = .ok (.iconst 0, 1) := dw_3 wX10_other_c rfl
theorem dX10_other_37 : decode cX10_other 37 = .ok (.istore 6, 2) := dw_54 wX10_other_c 6 rfl
theorem dX10_other_39 : decode cX10_other 39 = .ok (.iload 6, 2) := dw_21 wX10_other_c 6 rfl
theorem dX10_other_41 : decode cX10_other 41 = .ok (.aload_n 0, 1) := dw_42 wX10_other_c rfl
theorem dX10_other_42 : decode cX10_other 42 = .ok (.getfield 392, 3) := dw_180 wX10_other_c 1 136 rfl rfl
theorem dX10_other_45 : decode cX10_other 45 = .ok (.if_icmp .ge 89, 3) := dw_162 wX10_other_c 0 89 rfl rfl rfl
theorem dX10_other_48 : decode cX10_other 48 = .ok (.aload_n 0, 1) := dw_42 wX10_other_c rfl
theorem dX10_other_49 : decode cX10_other 49 = .ok (.getfield 141, 3) := dw_180 wX10_other_c 0 141 rfl rfl
theorem dX10_other_52 : decode cX10_other 52 = .ok (.iload 6, 2) := dw_21 wX10_other_c 6 rfl
theorem dX10_other_54 : decode cX10_other 54 = .ok (.iaload, 1) := dw_46 wX10_other_c rfl
theorem dX10_other_55 : decode cX10_other 55 = .ok (.istore 7, 2) := dw_54 wX10_other_c 7 rfl
theorem dX10_other_57 : decode cX10_other 57 = .ok (.aload_n 0, 1) := dw_42 wX10_other_c rfl
theorem dX10_other_58 : decode cX10_other 58 = .ok (.iload 7, 2) := dw_21 wX10_other_c 7 rfl
theorem dX10_other_60 : decode cX10_other 60 = .ok (.iload_n 3, 1) := dw_29 wX10_other_c rfl
theorem dX10_other_61 : decode cX10_other 61 = .ok (.invokevirtual 395, 3) := dw_182 wX10_other_c 1 139 rfl rfl
theorem dX10_other_64 : decode cX10_other 64 = .ok (.istore 8, 2) := dw_54 wX10_other_c 8 rfl
theorem dX10_other_66 : decode cX10_other 66 = .ok (.iload 4, 2) := dw_21 wX10_other_c 4 rfl
theorem dX10_other_68 : decode cX10_other 68 = .ok (.iload 8, 2) := dw_21 wX10_other_c 8 rfl
theorem dX10_other_70 : decode cX10_other 70 = .ok (.iload_n 2, 1) := dw_28 wX10_other_c rfl
theorem dX10_other_71 : decode cX10_other 71 = .ok (.if_icmp .ne 7, 3) := dw_160 wX10_other_c 0 7 rfl rfl rfl
theorem dX10_other_74 : decode cX10_other 74 = .ok (.iconst 1, 1) := dw_4 wX10_other_c rfl
theorem dX10_other_75 : decode cX10_other 75 = .ok (.goto 4, 3) := dw_167 wX10_other_c 0 4 rfl rfl rfl
theorem dX10_other_78 : decode cX10_other 78 = .ok (.iconst 0, 1) := dw_3 wX10_other_c rfl
theorem dX10_other_79 : decode cX10_other 79 = .ok (.iadd, 1) := dw_96 wX10_other_c rfl
theorem dX10_other_80 : decode cX10_other 80 = .ok (.istore 4, 2) := dw_54 wX10_other_c 4 rfl
theorem dX10_other_82 : decode cX10_other 82 = .ok (.iload 5, 2) := dw_21 wX10_other_c 5 rfl
theorem dX10_other_84 : decode cX10_other 84 = .ok (.aload_n 0, 1) := dw_42 wX10_other_c rfl
theorem dX10_other_85 : decode cX10_other 85 = .ok (.getfield 105, 3) := dw_180 wX10_other_c 0 105 rfl rfl
theorem dX10_other_88 : decode cX10_other 88 = .ok (.iload 7, 2) := dw_21 wX10_other_c 7 rfl
theorem dX10_other_90 : decode cX10_other 90 = .ok (.iaload, 1) := dw_46 wX10_other_c rfl
theorem dX10_other_91 : decode cX10_other 91 = .ok (.aload_n 0, 1) := dw_42 wX10_other_c rfl
theorem dX10_other_92 : decode cX10_other 92 = .ok (.iload_n 3, 1) := dw_29 wX10_other_c rfl
theorem dX10_other_93 : decode cX10_other 93 = .ok (.bipush 9, 2) := dw_16 wX10_other_c 9 rfl rfl rfl
theorem dX10_other_95 : decode cX10_other 95 = .ok (.invokevirtual 333, 3) := dw_182 wX10_other_c 1 77 rfl rfl
theorem dX10_other_98 : decode cX10_other 98 = .ok (.imul, 1) := dw_104 wX10_other_c rfl
theorem dX10_other_99 : decode cX10_other 99 = .ok (.aload_n 0, 1) := dw_42 wX10_other_c rfl
theorem dX10_other_100 : decode cX10_other 100 = .ok (.iload_n 3, 1) := dw_29 wX10_other_c rfl
theorem dX10_other_101 : decode cX10_other 101 = .ok (.bipush 10, 2) := dw_16 wX10_other_c 10 rfl rfl rfl
theorem dX10_other_103 : decode cX10_other 103 = .ok (.invokevirtual 333, 3) := dw_182 wX10_other_c 1 77 rfl rfl
theorem dX10_other_106 : decode cX10_other 106 = .ok (.iadd, 1) := dw_96 wX10_other_c rfl
theorem dX10_other_107 : decode cX10_other 107 = .ok (.iload 8, 2) := dw_21 wX10_other_c 8 rfl
theorem dX10_other_109 : decode cX10_other 109 = .ok (.iconst 5, 1) := dw_8 wX10_other_c rfl
theorem dX10_other_110 : decode cX10_other 110 = .ok (.if_icmp .ne 13, 3) := dw_160 wX10_other_c 0 13 rfl rfl rfl
theorem dX10_other_113 : decode cX10_other 113 = .ok (.aload_n 0, 1) := dw_42 wX10_other_c rfl
theorem dX10_other_114 : decode cX10_other 114 = .ok (.iload_n 3, 1) := dw_29 wX10_other_c rfl
theorem dX10_other_115 : decode cX10_other 115 = .ok (.bipush 11, 2) := dw_16 wX10_other_c 11 rfl rfl rfl
theorem dX10_other_117 : decode cX10_other 117 = .ok (.invokevirtual 333, 3) := dw_182 wX10_other_c 1 77 rfl rfl
theorem dX10_other_120 : decode cX10_other 120 = .ok (.goto 4, 3) := dw_167 wX10_other_c 0 4 rfl rfl rfl
theorem dX10_other_123 : decode cX10_other 123 = .ok (.iconst 0, 1) := dw_3 wX10_other_c rfl
theorem dX10_other_124 : decode cX10_other 124 = .ok (.iadd, 1) := dw_96 wX10_other_c rfl
theorem dX10_other_125 : decode cX10_other 125 = .ok (.iadd, 1) := dw_96 wX10_other_c rfl
theorem dX10_other_126 : decode cX10_other 126 = .ok (.istore 5, 2) := dw_54 wX10_other_c 5 rfl
theorem dX10_other_128 : decode cX10_other 128 = .ok (.iinc 6 1, 3) := dw_132 wX10_other_c 6 1 rfl rfl rfl
theorem dX10_other_131 : decode cX10_other 131 = .ok (.goto (-92), 3) := dn_167 wX10_other_c 255 164 rfl (by decide)
theorem dX10_other_134 : decode cX10_other 134 = .ok (.iload_n 2, 1) := dw_28 wX10_other_c rfl
theorem dX10_other_135 : decode cX10_other 135 = .ok (.bipush 6, 2) := dw_16 wX10_other_c 6 rfl rfl rfl
theorem dX10_other_137 : decode cX10_other 137 = .ok (.if_icmp .ne 8, 3) := dw_160 wX10_other_c 0 8 rfl rfl rfl
theorem dX10_other_140 : decode cX10_other 140 = .ok (.iload 5, 2) := dw_21 wX10_other_c 5 rfl
theorem dX10_other_142 : decode cX10_other 142 = .ok (.goto 5, 3) := dw_167 wX10_other_c 0 5 rfl rfl rfl
theorem dX10_other_145 : decode cX10_other 145 = .ok (.iload 4, 2) := dw_21 wX10_other_c 4 rfl
theorem dX10_other_147 : decode cX10_other 147 = .ok (.ireturn, 1) := dw_172 wX10_other_c rfl
end
