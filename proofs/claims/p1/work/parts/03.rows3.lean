theorem dX10_bookSum_44 : decode cX10_bookSum 44 = .ok (.iload_n 3, 1) := by decide +kernel
theorem dX10_bookSum_45 : decode cX10_bookSum 45 = .ok (.if_icmp .gt 47, 3) := by decide +kernel
theorem dX10_bookSum_48 : decode cX10_bookSum 48 = .ok (.iload 4, 2) := by decide +kernel
theorem dX10_bookSum_50 : decode cX10_bookSum 50 = .ok (.aload_n 0, 1) := by decide +kernel
theorem dX10_bookSum_51 : decode cX10_bookSum 51 = .ok (.getfield 72, 3) := by decide +kernel
theorem dX10_bookSum_54 : decode cX10_bookSum 54 = .ok (.iload 5, 2) := by decide +kernel
theorem dX10_bookSum_56 : decode cX10_bookSum 56 = .ok (.iaload, 1) := by decide +kernel
theorem dX10_bookSum_57 : decode cX10_bookSum 57 = .ok (.ifCond .eq 14, 3) := by decide +kernel
theorem dX10_bookSum_60 : decode cX10_bookSum 60 = .ok (.aload_n 0, 1) := by decide +kernel
theorem dX10_bookSum_61 : decode cX10_bookSum 61 = .ok (.getfield 72, 3) := by decide +kernel
theorem dX10_bookSum_64 : decode cX10_bookSum 64 = .ok (.iload 5, 2) := by decide +kernel
theorem dX10_bookSum_66 : decode cX10_bookSum 66 = .ok (.iaload, 1) := by decide +kernel
theorem dX10_bookSum_67 : decode cX10_bookSum 67 = .ok (.iconst 3, 1) := by decide +kernel
theorem dX10_bookSum_68 : decode cX10_bookSum 68 = .ok (.if_icmp .ne 13, 3) := by decide +kernel
theorem dX10_bookSum_71 : decode cX10_bookSum 71 = .ok (.aload_n 0, 1) := by decide +kernel
theorem dX10_bookSum_72 : decode cX10_bookSum 72 = .ok (.getfield 75, 3) := by decide +kernel
theorem dX10_bookSum_75 : decode cX10_bookSum 75 = .ok (.iload 5, 2) := by decide +kernel
theorem dX10_bookSum_77 : decode cX10_bookSum 77 = .ok (.iaload, 1) := by decide +kernel
theorem dX10_bookSum_78 : decode cX10_bookSum 78 = .ok (.goto 11, 3) := by decide +kernel
theorem dX10_bookSum_81 : decode cX10_bookSum 81 = .ok (.aload_n 0, 1) := by decide +kernel
theorem dX10_bookSum_82 : decode cX10_bookSum 82 = .ok (.getfield 75, 3) := by decide +kernel
theorem dX10_bookSum_85 : decode cX10_bookSum 85 = .ok (.iload 5, 2) := by decide +kernel
theorem dX10_bookSum_87 : decode cX10_bookSum 87 = .ok (.iaload, 1) := by decide +kernel
theorem dX10_bookSum_88 : decode cX10_bookSum 88 = .ok (.ineg, 1) := by decide +kernel
theorem dX10_bookSum_89 : decode cX10_bookSum 89 = .ok (.iadd, 1) := by decide +kernel
theorem dX10_bookSum_90 : decode cX10_bookSum 90 = .ok (.istore 4, 2) := by decide +kernel
theorem dX10_bookSum_92 : decode cX10_bookSum 92 = .ok (.iinc 5 1, 3) := by decide +kernel
theorem dX10_bookSum_95 : decode cX10_bookSum 95 = .ok (.goto (-89), 3) := by decide +kernel
theorem dX10_bookSum_98 : decode cX10_bookSum 98 = .ok (.iload 4, 2) := by decide +kernel
theorem dX10_bookSum_100 : decode cX10_bookSum 100 = .ok (.ireturn, 1) := by decide +kernel
theorem dX10_disorder_0 : decode cX10_disorder 0 = .ok (.iconst 0, 1) := by decide +kernel
theorem dX10_disorder_1 : decode cX10_disorder 1 = .ok (.istore_n 2, 1) := by decide +kernel
theorem dX10_disorder_2 : decode cX10_disorder 2 = .ok (.iconst (-1), 1) := by decide +kernel
theorem dX10_disorder_3 : decode cX10_disorder 3 = .ok (.istore_n 3, 1) := by decide +kernel
theorem dX10_disorder_4 : decode cX10_disorder 4 = .ok (.iconst 0, 1) := by decide +kernel
theorem dX10_disorder_5 : decode cX10_disorder 5 = .ok (.istore 4, 2) := by decide +kernel
theorem dX10_disorder_7 : decode cX10_disorder 7 = .ok (.iload 4, 2) := by decide +kernel
theorem dX10_disorder_9 : decode cX10_disorder 9 = .ok (.aload_n 0, 1) := by decide +kernel
theorem dX10_disorder_10 : decode cX10_disorder 10 = .ok (.getfield 351, 3) := by decide +kernel
theorem dX10_disorder_13 : decode cX10_disorder 13 = .ok (.if_icmp .ge 50, 3) := by decide +kernel
theorem dX10_disorder_16 : decode cX10_disorder 16 = .ok (.aload_n 0, 1) := by decide +kernel
theorem dX10_disorder_17 : decode cX10_disorder 17 = .ok (.getfield 63, 3) := by decide +kernel
theorem dX10_disorder_20 : decode cX10_disorder 20 = .ok (.iload 4, 2) := by decide +kernel
theorem dX10_disorder_22 : decode cX10_disorder 22 = .ok (.iaload, 1) := by decide +kernel
theorem dX10_disorder_23 : decode cX10_disorder 23 = .ok (.iload_n 1, 1) := by decide +kernel
theorem dX10_disorder_24 : decode cX10_disorder 24 = .ok (.if_icmp .eq 6, 3) := by decide +kernel
theorem dX10_disorder_27 : decode cX10_disorder 27 = .ok (.goto 30, 3) := by decide +kernel
theorem dX10_disorder_30 : decode cX10_disorder 30 = .ok (.iload_n 2, 1) := by decide +kernel
theorem dX10_disorder_31 : decode cX10_disorder 31 = .ok (.aload_n 0, 1) := by decide +kernel
theorem dX10_disorder_32 : decode cX10_disorder 32 = .ok (.getfield 69, 3) := by decide +kernel
theorem dX10_disorder_35 : decode cX10_disorder 35 = .ok (.iload 4, 2) := by decide +kernel
theorem dX10_disorder_37 : decode cX10_disorder 37 = .ok (.iaload, 1) := by decide +kernel
theorem dX10_disorder_38 : decode cX10_disorder 38 = .ok (.iload_n 3, 1) := by decide +kernel
theorem dX10_disorder_39 : decode cX10_disorder 39 = .ok (.if_icmp .ge 7, 3) := by decide +kernel
theorem dX10_disorder_42 : decode cX10_disorder 42 = .ok (.iconst 1, 1) := by decide +kernel
theorem dX10_disorder_43 : decode cX10_disorder 43 = .ok (.goto 4, 3) := by decide +kernel
theorem dX10_disorder_46 : decode cX10_disorder 46 = .ok (.iconst 0, 1) := by decide +kernel
theorem dX10_disorder_47 : decode cX10_disorder 47 = .ok (.iadd, 1) := by decide +kernel
theorem dX10_disorder_48 : decode cX10_disorder 48 = .ok (.istore_n 2, 1) := by decide +kernel
theorem dX10_disorder_49 : decode cX10_disorder 49 = .ok (.aload_n 0, 1) := by decide +kernel
theorem dX10_disorder_50 : decode cX10_disorder 50 = .ok (.getfield 69, 3) := by decide +kernel
theorem dX10_disorder_53 : decode cX10_disorder 53 = .ok (.iload 4, 2) := by decide +kernel
theorem dX10_disorder_55 : decode cX10_disorder 55 = .ok (.iaload, 1) := by decide +kernel
theorem dX10_disorder_56 : decode cX10_disorder 56 = .ok (.istore_n 3, 1) := by decide +kernel
theorem dX10_disorder_57 : decode cX10_disorder 57 = .ok (.iinc 4 1, 3) := by decide +kernel
theorem dX10_disorder_60 : decode cX10_disorder 60 = .ok (.goto (-53), 3) := by decide +kernel
theorem dX10_disorder_63 : decode cX10_disorder 63 = .ok (.iload_n 2, 1) := by decide +kernel
theorem dX10_disorder_64 : decode cX10_disorder 64 = .ok (.ireturn, 1) := by decide +kernel
theorem dX10_areTwins_0 : decode cX10_areTwins 0 = .ok (.aload_n 0, 1) := by decide +kernel
theorem dX10_areTwins_1 : decode cX10_areTwins 1 = .ok (.getfield 69, 3) := by decide +kernel
theorem dX10_areTwins_4 : decode cX10_areTwins 4 = .ok (.iload_n 1, 1) := by decide +kernel
theorem dX10_areTwins_5 : decode cX10_areTwins 5 = .ok (.iaload, 1) := by decide +kernel
theorem dX10_areTwins_6 : decode cX10_areTwins 6 = .ok (.aload_n 0, 1) := by decide +kernel
theorem dX10_areTwins_7 : decode cX10_areTwins 7 = .ok (.getfield 69, 3) := by decide +kernel
theorem dX10_areTwins_10 : decode cX10_areTwins 10 = .ok (.iload_n 2, 1) := by decide +kernel
theorem dX10_areTwins_11 : decode cX10_areTwins 11 = .ok (.iaload, 1) := by decide +kernel
theorem dX10_areTwins_12 : decode cX10_areTwins 12 = .ok (.isub, 1) := by decide +kernel
theorem dX10_areTwins_13 : decode cX10_areTwins 13 = .ok (.istore_n 3, 1) := by decide +kernel
theorem dX10_areTwins_14 : decode cX10_areTwins 14 = .ok (.aload_n 0, 1) := by decide +kernel
theorem dX10_areTwins_15 : decode cX10_areTwins 15 = .ok (.getfield 72, 3) := by decide +kernel
theorem dX10_areTwins_18 : decode cX10_areTwins 18 = .ok (.iload_n 1, 1) := by decide +kernel
theorem dX10_areTwins_19 : decode cX10_areTwins 19 = .ok (.iaload, 1) := by decide +kernel
theorem dX10_areTwins_20 : decode cX10_areTwins 20 = .ok (.iconst 1, 1) := by decide +kernel
theorem dX10_areTwins_21 : decode cX10_areTwins 21 = .ok (.ixor, 1) := by decide +kernel
theorem dX10_areTwins_22 : decode cX10_areTwins 22 = .ok (.aload_n 0, 1) := by decide +kernel
theorem dX10_areTwins_23 : decode cX10_areTwins 23 = .ok (.getfield 72, 3) := by decide +kernel
theorem dX10_areTwins_26 : decode cX10_areTwins 26 = .ok (.iload_n 2, 1) := by decide +kernel
theorem dX10_areTwins_27 : decode cX10_areTwins 27 = .ok (.iaload, 1) := by decide +kernel
theorem dX10_areTwins_28 : decode cX10_areTwins 28 = .ok (.if_icmp .ne 32, 3) := by decide +kernel
theorem dX10_areTwins_31 : decode cX10_areTwins 31 = .ok (.aload_n 0, 1) := by decide +kernel
theorem dX10_areTwins_32 : decode cX10_areTwins 32 = .ok (.getfield 75, 3) := by decide +kernel
theorem dX10_areTwins_35 : decode cX10_areTwins 35 = .ok (.iload_n 1, 1) := by decide +kernel
theorem dX10_areTwins_36 : decode cX10_areTwins 36 = .ok (.iaload, 1) := by decide +kernel
theorem dX10_areTwins_37 : decode cX10_areTwins 37 = .ok (.aload_n 0, 1) := by decide +kernel
theorem dX10_areTwins_38 : decode cX10_areTwins 38 = .ok (.getfield 75, 3) := by decide +kernel
theorem dX10_areTwins_41 : decode cX10_areTwins 41 = .ok (.iload_n 2, 1) := by decide +kernel
theorem dX10_areTwins_42 : decode cX10_areTwins 42 = .ok (.iaload, 1) := by decide +kernel
theorem dX10_areTwins_43 : decode cX10_areTwins 43 = .ok (.if_icmp .ne 17, 3) := by decide +kernel
theorem dX10_areTwins_46 : decode cX10_areTwins 46 = .ok (.iload_n 3, 1) := by decide +kernel
theorem dX10_areTwins_47 : decode cX10_areTwins 47 = .ok (.bipush (-3), 2) := by decide +kernel
theorem dX10_areTwins_49 : decode cX10_areTwins 49 = .ok (.iconst 3, 1) := by decide +kernel
theorem dX10_areTwins_50 : decode cX10_areTwins 50 = .ok (.invokestatic 228, 3) := by decide +kernel
theorem dX10_areTwins_53 : decode cX10_areTwins 53 = .ok (.ifCond .eq 7, 3) := by decide +kernel
theorem dX10_areTwins_56 : decode cX10_areTwins 56 = .ok (.iconst 1, 1) := by decide +kernel
theorem dX10_areTwins_57 : decode cX10_areTwins 57 = .ok (.goto 4, 3) := by decide +kernel
theorem dX10_areTwins_60 : decode cX10_areTwins 60 = .ok (.iconst 0, 1) := by decide +kernel
theorem dX10_areTwins_61 : decode cX10_areTwins 61 = .ok (.ireturn, 1) := by decide +kernel
theorem dX10_alike_0 : decode cX10_alike 0 = .ok (.iconst 0, 1) := by decide +kernel
theorem dX10_alike_1 : decode cX10_alike 1 = .ok (.istore 4, 2) := by decide +kernel
theorem dX10_alike_3 : decode cX10_alike 3 = .ok (.iload 4, 2) := by decide +kernel
theorem dX10_alike_5 : decode cX10_alike 5 = .ok (.aload_n 0, 1) := by decide +kernel
theorem dX10_alike_6 : decode cX10_alike 6 = .ok (.getfield 351, 3) := by decide +kernel
theorem dX10_alike_9 : decode cX10_alike 9 = .ok (.if_icmp .ge 17, 3) := by decide +kernel
theorem dX10_alike_12 : decode cX10_alike 12 = .ok (.aload_n 0, 1) := by decide +kernel
theorem dX10_alike_13 : decode cX10_alike 13 = .ok (.getfield 78, 3) := by decide +kernel
theorem dX10_alike_16 : decode cX10_alike 16 = .ok (.iload 4, 2) := by decide +kernel
theorem dX10_alike_18 : decode cX10_alike 18 = .ok (.iconst 0, 1) := by decide +kernel
theorem dX10_alike_19 : decode cX10_alike 19 = .ok (.bastore, 1) := by decide +kernel
theorem dX10_alike_20 : decode cX10_alike 20 = .ok (.iinc 4 1, 3) := by decide +kernel
theorem dX10_alike_23 : decode cX10_alike 23 = .ok (.goto (-20), 3) := by decide +kernel
theorem dX10_alike_26 : decode cX10_alike 26 = .ok (.iconst 0, 1) := by decide +kernel
theorem dX10_alike_27 : decode cX10_alike 27 = .ok (.istore 4, 2) := by decide +kernel
theorem dX10_alike_29 : decode cX10_alike 29 = .ok (.iconst 0, 1) := by decide +kernel
theorem dX10_alike_30 : decode cX10_alike 30 = .ok (.istore 5, 2) := by decide +kernel
theorem dX10_alike_32 : decode cX10_alike 32 = .ok (.iload 5, 2) := by decide +kernel
theorem dX10_alike_34 : decode cX10_alike 34 = .ok (.iload_n 3, 1) := by decide +kernel
theorem dX10_alike_35 : decode cX10_alike 35 = .ok (.if_icmp .gt 187, 3) := by decide +kernel
theorem dX10_alike_38 : decode cX10_alike 38 = .ok (.iconst 0, 1) := by decide +kernel
theorem dX10_alike_39 : decode cX10_alike 39 = .ok (.istore 6, 2) := by decide +kernel
theorem dX10_alike_41 : decode cX10_alike 41 = .ok (.iload 6, 2) := by decide +kernel
theorem dX10_alike_43 : decode cX10_alike 43 = .ok (.aload_n 0, 1) := by decide +kernel
theorem dX10_alike_44 : decode cX10_alike 44 = .ok (.getfield 351, 3) := by decide +kernel
theorem dX10_alike_47 : decode cX10_alike 47 = .ok (.if_icmp .ge 169, 3) := by decide +kernel
theorem dX10_alike_50 : decode cX10_alike 50 = .ok (.aload_n 0, 1) := by decide +kernel
theorem dX10_alike_51 : decode cX10_alike 51 = .ok (.getfield 69, 3) := by decide +kernel
theorem dX10_alike_54 : decode cX10_alike 54 = .ok (.iload 6, 2) := by decide +kernel
theorem dX10_alike_56 : decode cX10_alike 56 = .ok (.iaload, 1) := by decide +kernel
theorem dX10_alike_57 : decode cX10_alike 57 = .ok (.iload 5, 2) := by decide +kernel
theorem dX10_alike_59 : decode cX10_alike 59 = .ok (.if_icmp .ne 151, 3) := by decide +kernel
theorem dX10_alike_62 : decode cX10_alike 62 = .ok (.aload_n 0, 1) := by decide +kernel
theorem dX10_alike_63 : decode cX10_alike 63 = .ok (.getfield 63, 3) := by decide +kernel
theorem dX10_alike_66 : decode cX10_alike 66 = .ok (.iload 6, 2) := by decide +kernel
theorem dX10_alike_68 : decode cX10_alike 68 = .ok (.iaload, 1) := by decide +kernel
theorem dX10_alike_69 : decode cX10_alike 69 = .ok (.iload_n 1, 1) := by decide +kernel
theorem dX10_alike_70 : decode cX10_alike 70 = .ok (.if_icmp .ne 140, 3) := by decide +kernel
theorem dX10_alike_73 : decode cX10_alike 73 = .ok (.aload_n 0, 1) := by decide +kernel
theorem dX10_alike_74 : decode cX10_alike 74 = .ok (.getfield 66, 3) := by decide +kernel
theorem dX10_alike_77 : decode cX10_alike 77 = .ok (.iload 6, 2) := by decide +kernel
theorem dX10_alike_79 : decode cX10_alike 79 = .ok (.iaload, 1) := by decide +kernel
theorem dX10_alike_80 : decode cX10_alike 80 = .ok (.iload_n 2, 1) := by decide +kernel
theorem dX10_alike_81 : decode cX10_alike 81 = .ok (.if_icmp .eq 6, 3) := by decide +kernel
theorem dX10_alike_84 : decode cX10_alike 84 = .ok (.goto 126, 3) := by decide +kernel
theorem dX10_alike_87 : decode cX10_alike 87 = .ok (.iconst (-1), 1) := by decide +kernel
theorem dX10_alike_88 : decode cX10_alike 88 = .ok (.istore 7, 2) := by decide +kernel
theorem dX10_alike_90 : decode cX10_alike 90 = .ok (.iconst 0, 1) := by decide +kernel
theorem dX10_alike_91 : decode cX10_alike 91 = .ok (.istore 8, 2) := by decide +kernel
theorem dX10_alike_93 : decode cX10_alike 93 = .ok (.iload 8, 2) := by decide +kernel
theorem dX10_alike_95 : decode cX10_alike 95 = .ok (.aload_n 0, 1) := by decide +kernel
theorem dX10_alike_96 : decode cX10_alike 96 = .ok (.getfield 351, 3) := by decide +kernel
theorem dX10_alike_99 : decode cX10_alike 99 = .ok (.if_icmp .ge 92, 3) := by decide +kernel
theorem dX10_alike_102 : decode cX10_alike 102 = .ok (.aload_n 0, 1) := by decide +kernel
theorem dX10_alike_103 : decode cX10_alike 103 = .ok (.getfield 78, 3) := by decide +kernel
theorem dX10_alike_106 : decode cX10_alike 106 = .ok (.iload 8, 2) := by decide +kernel
theorem dX10_alike_108 : decode cX10_alike 108 = .ok (.baload, 1) := by decide +kernel
theorem dX10_alike_109 : decode cX10_alike 109 = .ok (.ifCond .ne 76, 3) := by decide +kernel
theorem dX10_alike_112 : decode cX10_alike 112 = .ok (.aload_n 0, 1) := by decide +kernel
theorem dX10_alike_113 : decode cX10_alike 113 = .ok (.getfield 63, 3) := by decide +kernel
theorem dX10_alike_116 : decode cX10_alike 116 = .ok (.iload 8, 2) := by decide +kernel
theorem dX10_alike_118 : decode cX10_alike 118 = .ok (.iaload, 1) := by decide +kernel
theorem dX10_alike_119 : decode cX10_alike 119 = .ok (.iload_n 2, 1) := by decide +kernel
theorem dX10_alike_120 : decode cX10_alike 120 = .ok (.if_icmp .ne 65, 3) := by decide +kernel
theorem dX10_alike_123 : decode cX10_alike 123 = .ok (.aload_n 0, 1) := by decide +kernel
theorem dX10_alike_124 : decode cX10_alike 124 = .ok (.getfield 66, 3) := by decide +kernel
theorem dX10_alike_127 : decode cX10_alike 127 = .ok (.iload 8, 2) := by decide +kernel
theorem dX10_alike_129 : decode cX10_alike 129 = .ok (.iaload, 1) := by decide +kernel
theorem dX10_alike_130 : decode cX10_alike 130 = .ok (.iload_n 1, 1) := by decide +kernel
theorem dX10_alike_131 : decode cX10_alike 131 = .ok (.if_icmp .ne 54, 3) := by decide +kernel
theorem dX10_alike_134 : decode cX10_alike 134 = .ok (.aload_n 0, 1) := by decide +kernel
theorem dX10_alike_135 : decode cX10_alike 135 = .ok (.getfield 69, 3) := by decide +kernel
theorem dX10_alike_138 : decode cX10_alike 138 = .ok (.iload 8, 2) := by decide +kernel
theorem dX10_alike_140 : decode cX10_alike 140 = .ok (.iaload, 1) := by decide +kernel
theorem dX10_alike_141 : decode cX10_alike 141 = .ok (.iload_n 3, 1) := by decide +kernel
theorem dX10_alike_142 : decode cX10_alike 142 = .ok (.if_icmp .gt 43, 3) := by decide +kernel
theorem dX10_alike_145 : decode cX10_alike 145 = .ok (.aload_n 0, 1) := by decide +kernel
theorem dX10_alike_146 : decode cX10_alike 146 = .ok (.iload 6, 2) := by decide +kernel
theorem dX10_alike_148 : decode cX10_alike 148 = .ok (.iload 8, 2) := by decide +kernel
theorem dX10_alike_150 : decode cX10_alike 150 = .ok (.invokevirtual 354, 3) := by decide +kernel
theorem dX10_alike_153 : decode cX10_alike 153 = .ok (.ifCond .ne 6, 3) := by decide +kernel
theorem dX10_alike_156 : decode cX10_alike 156 = .ok (.goto 29, 3) := by decide +kernel
theorem dX10_alike_159 : decode cX10_alike 159 = .ok (.iload 7, 2) := by decide +kernel
theorem dX10_alike_161 : decode cX10_alike 161 = .ok (.ifCond .lt 20, 3) := by decide +kernel
theorem dX10_alike_164 : decode cX10_alike 164 = .ok (.aload_n 0, 1) := by decide +kernel
theorem dX10_alike_165 : decode cX10_alike 165 = .ok (.getfield 69, 3) := by decide +kernel
theorem dX10_alike_168 : decode cX10_alike 168 = .ok (.iload 8, 2) := by decide +kernel
theorem dX10_alike_170 : decode cX10_alike 170 = .ok (.iaload, 1) := by decide +kernel
theorem dX10_alike_171 : decode cX10_alike 171 = .ok (.aload_n 0, 1) := by decide +kernel
theorem dX10_alike_172 : decode cX10_alike 172 = .ok (.getfield 69, 3) := by decide +kernel
theorem dX10_alike_175 : decode cX10_alike 175 = .ok (.iload 7, 2) := by decide +kernel
theorem dX10_alike_177 : decode cX10_alike 177 = .ok (.iaload, 1) := by decide +kernel
theorem dX10_alike_178 : decode cX10_alike 178 = .ok (.if_icmp .ge 7, 3) := by decide +kernel
theorem dX10_alike_181 : decode cX10_alike 181 = .ok (.iload 8, 2) := by decide +kernel
theorem dX10_alike_183 : decode cX10_alike 183 = .ok (.istore 7, 2) := by decide +kernel
theorem dX10_alike_185 : decode cX10_alike 185 = .ok (.iinc 8 1, 3) := by decide +kernel
theorem dX10_alike_188 : decode cX10_alike 188 = .ok (.goto (-95), 3) := by decide +kernel
theorem dX10_alike_191 : decode cX10_alike 191 = .ok (.iload 7, 2) := by decide +kernel
theorem dX10_alike_193 : decode cX10_alike 193 = .ok (.ifCond .ge 6, 3) := by decide +kernel
theorem dX10_alike_196 : decode cX10_alike 196 = .ok (.goto 14, 3) := by decide +kernel
theorem dX10_alike_199 : decode cX10_alike 199 = .ok (.aload_n 0, 1) := by decide +kernel
theorem dX10_alike_200 : decode cX10_alike 200 = .ok (.getfield 78, 3) := by decide +kernel
theorem dX10_alike_203 : decode cX10_alike 203 = .ok (.iload 7, 2) := by decide +kernel
theorem dX10_alike_205 : decode cX10_alike 205 = .ok (.iconst 1, 1) := by decide +kernel
theorem dX10_alike_206 : decode cX10_alike 206 = .ok (.bastore, 1) := by decide +kernel
theorem dX10_alike_207 : decode cX10_alike 207 = .ok (.iinc 4 1, 3) := by decide +kernel
theorem dX10_alike_210 : decode cX10_alike 210 = .ok (.iinc 6 1, 3) := by decide +kernel
theorem dX10_alike_213 : decode cX10_alike 213 = .ok (.goto (-172), 3) := by decide +kernel
theorem dX10_alike_216 : decode cX10_alike 216 = .ok (.iinc 5 1, 3) := by decide +kernel
theorem dX10_alike_219 : decode cX10_alike 219 = .ok (.goto (-187), 3) := by decide +kernel
theorem dX10_alike_222 : decode cX10_alike 222 = .ok (.iload 4, 2) := by decide +kernel
theorem dX10_alike_224 : decode cX10_alike 224 = .ok (.ireturn, 1) := by decide +kernel
theorem dX10_book_0 : decode cX10_book 0 = .ok (.aload_n 0, 1) := by decide +kernel
theorem dX10_book_1 : decode cX10_book 1 = .ok (.iload_n 1, 1) := by decide +kernel
theorem dX10_book_2 : decode cX10_book 2 = .ok (.invokevirtual 348, 3) := by decide +kernel
theorem dX10_book_5 : decode cX10_book 5 = .ok (.ifCond .eq 23, 3) := by decide +kernel
theorem dX10_book_8 : decode cX10_book 8 = .ok (.aload_n 0, 1) := by decide +kernel
theorem dX10_book_9 : decode cX10_book 9 = .ok (.iload_n 2, 1) := by decide +kernel
theorem dX10_book_10 : decode cX10_book 10 = .ok (.invokevirtual 348, 3) := by decide +kernel
theorem dX10_book_13 : decode cX10_book 13 = .ok (.ifCond .eq 15, 3) := by decide +kernel
theorem dX10_book_16 : decode cX10_book 16 = .ok (.iload_n 1, 1) := by decide +kernel
theorem dX10_book_17 : decode cX10_book 17 = .ok (.iload_n 2, 1) := by decide +kernel
theorem dX10_book_18 : decode cX10_book 18 = .ok (.if_icmp .eq 10, 3) := by decide +kernel
theorem dX10_book_21 : decode cX10_book 21 = .ok (.iload_n 3, 1) := by decide +kernel
theorem dX10_book_22 : decode cX10_book 22 = .ok (.invokestatic 324, 3) := by decide +kernel
theorem dX10_book_25 : decode cX10_book 25 = .ok (.ifCond .ne 7, 3) := by decide +kernel
theorem dX10_book_28 : decode cX10_book 28 = .ok (.ldc_w 357, 3) := by decide +kernel
theorem dX10_book_31 : decode cX10_book 31 = .ok (.ireturn, 1) := by decide +kernel
theorem dX10_book_32 : decode cX10_book 32 = .ok (.iload 4, 2) := by decide +kernel
theorem dX10_book_34 : decode cX10_book 34 = .ok (.ifCond .ne 13, 3) := by decide +kernel
theorem dX10_book_37 : decode cX10_book 37 = .ok (.aload_n 0, 1) := by decide +kernel
theorem dX10_book_38 : decode cX10_book 38 = .ok (.iload_n 1, 1) := by decide +kernel
theorem dX10_book_39 : decode cX10_book 39 = .ok (.iload_n 2, 1) := by decide +kernel
theorem dX10_book_40 : decode cX10_book 40 = .ok (.iload_n 3, 1) := by decide +kernel
theorem dX10_book_41 : decode cX10_book 41 = .ok (.invokevirtual 358, 3) := by decide +kernel
theorem dX10_book_44 : decode cX10_book 44 = .ok (.goto 36, 3) := by decide +kernel
theorem dX10_book_47 : decode cX10_book 47 = .ok (.iload 4, 2) := by decide +kernel
theorem dX10_book_49 : decode cX10_book 49 = .ok (.iconst 1, 1) := by decide +kernel
theorem dX10_book_50 : decode cX10_book 50 = .ok (.if_icmp .ne 13, 3) := by decide +kernel
theorem dX10_book_53 : decode cX10_book 53 = .ok (.aload_n 0, 1) := by decide +kernel
theorem dX10_book_54 : decode cX10_book 54 = .ok (.iload_n 1, 1) := by decide +kernel
theorem dX10_book_55 : decode cX10_book 55 = .ok (.iload_n 2, 1) := by decide +kernel
theorem dX10_book_56 : decode cX10_book 56 = .ok (.iload_n 3, 1) := by decide +kernel
theorem dX10_book_57 : decode cX10_book 57 = .ok (.invokevirtual 361, 3) := by decide +kernel
theorem dX10_book_60 : decode cX10_book 60 = .ok (.goto 20, 3) := by decide +kernel
theorem dX10_book_63 : decode cX10_book 63 = .ok (.iload 4, 2) := by decide +kernel
theorem dX10_book_65 : decode cX10_book 65 = .ok (.iconst 2, 1) := by decide +kernel
theorem dX10_book_66 : decode cX10_book 66 = .ok (.if_icmp .ne 11, 3) := by decide +kernel
theorem dX10_book_69 : decode cX10_book 69 = .ok (.aload_n 0, 1) := by decide +kernel
theorem dX10_book_70 : decode cX10_book 70 = .ok (.iload_n 1, 1) := by decide +kernel
theorem dX10_book_71 : decode cX10_book 71 = .ok (.invokevirtual 364, 3) := by decide +kernel
theorem dX10_book_74 : decode cX10_book 74 = .ok (.goto 6, 3) := by decide +kernel
theorem dX10_book_77 : decode cX10_book 77 = .ok (.ldc_w 357, 3) := by decide +kernel
theorem dX10_book_80 : decode cX10_book 80 = .ok (.ireturn, 1) := by decide +kernel
theorem dX10_isClaim_0 : decode cX10_isClaim 0 = .ok (.iload_n 1, 1) := by decide +kernel
theorem dX10_isClaim_1 : decode cX10_isClaim 1 = .ok (.iconst 0, 1) := by decide +kernel
theorem dX10_isClaim_2 : decode cX10_isClaim 2 = .ok (.aload_n 0, 1) := by decide +kernel
theorem dX10_isClaim_3 : decode cX10_isClaim 3 = .ok (.getfield 367, 3) := by decide +kernel
theorem dX10_isClaim_6 : decode cX10_isClaim 6 = .ok (.iconst 1, 1) := by decide +kernel
theorem dX10_isClaim_7 : decode cX10_isClaim 7 = .ok (.isub, 1) := by decide +kernel
theorem dX10_isClaim_8 : decode cX10_isClaim 8 = .ok (.invokestatic 228, 3) := by decide +kernel
theorem dX10_isClaim_11 : decode cX10_isClaim 11 = .ok (.ireturn, 1) := by decide +kernel
theorem dX10_file_0 : decode cX10_file 0 = .ok (.aload_n 0, 1) := by decide +kernel
theorem dX10_file_1 : decode cX10_file 1 = .ok (.getfield 367, 3) := by decide +kernel
theorem dX10_file_4 : decode cX10_file 4 = .ok (.bipush 100, 2) := by decide +kernel
theorem dX10_file_6 : decode cX10_file 6 = .ok (.if_icmp .eq 68, 3) := by decide +kernel
theorem dX10_file_9 : decode cX10_file 9 = .ok (.aload_n 0, 1) := by decide +kernel
theorem dX10_file_10 : decode cX10_file 10 = .ok (.iload_n 1, 1) := by decide +kernel
theorem dX10_file_11 : decode cX10_file 11 = .ok (.invokevirtual 348, 3) := by decide +kernel
theorem dX10_file_14 : decode cX10_file 14 = .ok (.ifCond .eq 60, 3) := by decide +kernel
theorem dX10_file_17 : decode cX10_file 17 = .ok (.aload_n 0, 1) := by decide +kernel
theorem dX10_file_18 : decode cX10_file 18 = .ok (.iload_n 2, 1) := by decide +kernel
theorem dX10_file_19 : decode cX10_file 19 = .ok (.invokevirtual 348, 3) := by decide +kernel
theorem dX10_file_22 : decode cX10_file 22 = .ok (.ifCond .eq 52, 3) := by decide +kernel
theorem dX10_file_25 : decode cX10_file 25 = .ok (.iload_n 1, 1) := by decide +kernel
theorem dX10_file_26 : decode cX10_file 26 = .ok (.iload_n 2, 1) := by decide +kernel
theorem dX10_file_27 : decode cX10_file 27 = .ok (.if_icmp .eq 47, 3) := by decide +kernel
theorem dX10_file_30 : decode cX10_file 30 = .ok (.aload_n 0, 1) := by decide +kernel
theorem dX10_file_31 : decode cX10_file 31 = .ok (.getfield 56, 3) := by decide +kernel
theorem dX10_file_34 : decode cX10_file 34 = .ok (.iload_n 2, 1) := by decide +kernel
theorem dX10_file_35 : decode cX10_file 35 = .ok (.baload, 1) := by decide +kernel
theorem dX10_file_36 : decode cX10_file 36 = .ok (.ifCond .ne 38, 3) := by decide +kernel
theorem dX10_file_39 : decode cX10_file 39 = .ok (.iload_n 3, 1) := by decide +kernel
theorem dX10_file_40 : decode cX10_file 40 = .ok (.iconst 1, 1) := by decide +kernel
theorem dX10_file_41 : decode cX10_file 41 = .ok (.sipush 9999, 3) := by decide +kernel
theorem dX10_file_44 : decode cX10_file 44 = .ok (.invokestatic 228, 3) := by decide +kernel
theorem dX10_file_47 : decode cX10_file 47 = .ok (.ifCond .eq 27, 3) := by decide +kernel
theorem dX10_file_50 : decode cX10_file 50 = .ok (.iload 4, 2) := by decide +kernel
theorem dX10_file_52 : decode cX10_file 52 = .ok (.iconst 0, 1) := by decide +kernel
theorem dX10_file_53 : decode cX10_file 53 = .ok (.aload_n 0, 1) := by decide +kernel
theorem dX10_file_54 : decode cX10_file 54 = .ok (.getfield 232, 3) := by decide +kernel
theorem dX10_file_57 : decode cX10_file 57 = .ok (.invokestatic 228, 3) := by decide +kernel
theorem dX10_file_60 : decode cX10_file 60 = .ok (.ifCond .eq 14, 3) := by decide +kernel
theorem dX10_file_63 : decode cX10_file 63 = .ok (.iload 6, 2) := by decide +kernel
theorem dX10_file_65 : decode cX10_file 65 = .ok (.iconst 0, 1) := by decide +kernel
theorem dX10_file_66 : decode cX10_file 66 = .ok (.bipush 9, 2) := by decide +kernel
theorem dX10_file_68 : decode cX10_file 68 = .ok (.invokestatic 228, 3) := by decide +kernel
theorem dX10_file_71 : decode cX10_file 71 = .ok (.ifCond .ne 5, 3) := by decide +kernel
theorem dX10_file_74 : decode cX10_file 74 = .ok (.iconst (-1), 1) := by decide +kernel
theorem dX10_file_75 : decode cX10_file 75 = .ok (.ireturn, 1) := by decide +kernel
theorem dX10_file_76 : decode cX10_file 76 = .ok (.aload_n 0, 1) := by decide +kernel
theorem dX10_file_77 : decode cX10_file 77 = .ok (.getfield 367, 3) := by decide +kernel
theorem dX10_file_80 : decode cX10_file 80 = .ok (.istore 7, 2) := by decide +kernel
theorem dX10_file_82 : decode cX10_file 82 = .ok (.aload_n 0, 1) := by decide +kernel
theorem dX10_file_83 : decode cX10_file 83 = .ok (.getfield 81, 3) := by decide +kernel
theorem dX10_file_86 : decode cX10_file 86 = .ok (.iload 7, 2) := by decide +kernel
theorem dX10_file_88 : decode cX10_file 88 = .ok (.iload_n 1, 1) := by decide +kernel
theorem dX10_file_89 : decode cX10_file 89 = .ok (.iastore, 1) := by decide +kernel
theorem dX10_file_90 : decode cX10_file 90 = .ok (.aload_n 0, 1) := by decide +kernel
theorem dX10_file_91 : decode cX10_file 91 = .ok (.getfield 84, 3) := by decide +kernel
theorem dX10_file_94 : decode cX10_file 94 = .ok (.iload 7, 2) := by decide +kernel
theorem dX10_file_96 : decode cX10_file 96 = .ok (.iload_n 2, 1) := by decide +kernel
theorem dX10_file_97 : decode cX10_file 97 = .ok (.iastore, 1) := by decide +kernel
theorem dX10_file_98 : decode cX10_file 98 = .ok (.aload_n 0, 1) := by decide +kernel
theorem dX10_file_99 : decode cX10_file 99 = .ok (.getfield 87, 3) := by decide +kernel
theorem dX10_file_102 : decode cX10_file 102 = .ok (.iload 7, 2) := by decide +kernel
theorem dX10_file_104 : decode cX10_file 104 = .ok (.iload_n 3, 1) := by decide +kernel
theorem dX10_file_105 : decode cX10_file 105 = .ok (.iastore, 1) := by decide +kernel
theorem dX10_file_106 : decode cX10_file 106 = .ok (.aload_n 0, 1) := by decide +kernel
theorem dX10_file_107 : decode cX10_file 107 = .ok (.getfield 90, 3) := by decide +kernel
theorem dX10_file_110 : decode cX10_file 110 = .ok (.iload 7, 2) := by decide +kernel
theorem dX10_file_112 : decode cX10_file 112 = .ok (.iload 4, 2) := by decide +kernel
theorem dX10_file_114 : decode cX10_file 114 = .ok (.iastore, 1) := by decide +kernel
theorem dX10_file_115 : decode cX10_file 115 = .ok (.aload_n 0, 1) := by decide +kernel
theorem dX10_file_116 : decode cX10_file 116 = .ok (.getfield 93, 3) := by decide +kernel
theorem dX10_file_119 : decode cX10_file 119 = .ok (.iload 7, 2) := by decide +kernel
theorem dX10_file_121 : decode cX10_file 121 = .ok (.iload 5, 2) := by decide +kernel
theorem dX10_file_123 : decode cX10_file 123 = .ok (.bastore, 1) := by decide +kernel
theorem dX10_file_124 : decode cX10_file 124 = .ok (.aload_n 0, 1) := by decide +kernel
theorem dX10_file_125 : decode cX10_file 125 = .ok (.getfield 96, 3) := by decide +kernel
theorem dX10_file_128 : decode cX10_file 128 = .ok (.iload 7, 2) := by decide +kernel
theorem dX10_file_130 : decode cX10_file 130 = .ok (.iload 6, 2) := by decide +kernel
theorem dX10_file_132 : decode cX10_file 132 = .ok (.iastore, 1) := by decide +kernel
theorem dX10_file_133 : decode cX10_file 133 = .ok (.aload_n 0, 1) := by decide +kernel
theorem dX10_file_134 : decode cX10_file 134 = .ok (.getfield 99, 3) := by decide +kernel
theorem dX10_file_137 : decode cX10_file 137 = .ok (.iload 7, 2) := by decide +kernel
theorem dX10_file_139 : decode cX10_file 139 = .ok (.aload_n 0, 1) := by decide +kernel
theorem dX10_file_140 : decode cX10_file 140 = .ok (.getfield 232, 3) := by decide +kernel
theorem dX10_file_143 : decode cX10_file 143 = .ok (.iastore, 1) := by decide +kernel
theorem dX10_file_144 : decode cX10_file 144 = .ok (.aload_n 0, 1) := by decide +kernel
theorem dX10_file_145 : decode cX10_file 145 = .ok (.getfield 102, 3) := by decide +kernel
theorem dX10_file_148 : decode cX10_file 148 = .ok (.iload 7, 2) := by decide +kernel
theorem dX10_file_150 : decode cX10_file 150 = .ok (.aload_n 0, 1) := by decide +kernel
theorem dX10_file_151 : decode cX10_file 151 = .ok (.aload_n 0, 1) := by decide +kernel
theorem dX10_file_152 : decode cX10_file 152 = .ok (.getfield 232, 3) := by decide +kernel
theorem dX10_file_155 : decode cX10_file 155 = .ok (.invokevirtual 330, 3) := by decide +kernel
theorem dX10_file_158 : decode cX10_file 158 = .ok (.iastore, 1) := by decide +kernel
theorem dX10_file_159 : decode cX10_file 159 = .ok (.aload_n 0, 1) := by decide +kernel
theorem dX10_file_160 : decode cX10_file 160 = .ok (.getfield 108, 3) := by decide +kernel
theorem dX10_file_163 : decode cX10_file 163 = .ok (.iload 7, 2) := by decide +kernel
theorem dX10_file_165 : decode cX10_file 165 = .ok (.iconst (-1), 1) := by decide +kernel
theorem dX10_file_166 : decode cX10_file 166 = .ok (.iastore, 1) := by decide +kernel
theorem dX10_file_167 : decode cX10_file 167 = .ok (.aload_n 0, 1) := by decide +kernel
theorem dX10_file_168 : decode cX10_file 168 = .ok (.getfield 111, 3) := by decide +kernel
theorem dX10_file_171 : decode cX10_file 171 = .ok (.iload 7, 2) := by decide +kernel
theorem dX10_file_173 : decode cX10_file 173 = .ok (.iconst (-1), 1) := by decide +kernel
theorem dX10_file_174 : decode cX10_file 174 = .ok (.iastore, 1) := by decide +kernel
theorem dX10_file_175 : decode cX10_file 175 = .ok (.aload_n 0, 1) := by decide +kernel
theorem dX10_file_176 : decode cX10_file 176 = .ok (.getfield 114, 3) := by decide +kernel
theorem dX10_file_179 : decode cX10_file 179 = .ok (.iload 7, 2) := by decide +kernel
theorem dX10_file_181 : decode cX10_file 181 = .ok (.iconst (-1), 1) := by decide +kernel
theorem dX10_file_182 : decode cX10_file 182 = .ok (.iastore, 1) := by decide +kernel
theorem dX10_file_183 : decode cX10_file 183 = .ok (.aload_n 0, 1) := by decide +kernel
theorem dX10_file_184 : decode cX10_file 184 = .ok (.getfield 117, 3) := by decide +kernel
theorem dX10_file_187 : decode cX10_file 187 = .ok (.iload 7, 2) := by decide +kernel
theorem dX10_file_189 : decode cX10_file 189 = .ok (.iconst (-1), 1) := by decide +kernel
theorem dX10_file_190 : decode cX10_file 190 = .ok (.iastore, 1) := by decide +kernel
theorem dX10_file_191 : decode cX10_file 191 = .ok (.aload_n 0, 1) := by decide +kernel
theorem dX10_file_192 : decode cX10_file 192 = .ok (.getfield 120, 3) := by decide +kernel
theorem dX10_file_195 : decode cX10_file 195 = .ok (.iload 7, 2) := by decide +kernel
theorem dX10_file_197 : decode cX10_file 197 = .ok (.iconst (-1), 1) := by decide +kernel
theorem dX10_file_198 : decode cX10_file 198 = .ok (.iastore, 1) := by decide +kernel
theorem dX10_file_199 : decode cX10_file 199 = .ok (.iconst 0, 1) := by decide +kernel
theorem dX10_file_200 : decode cX10_file 200 = .ok (.istore 8, 2) := by decide +kernel
theorem dX10_file_202 : decode cX10_file 202 = .ok (.iload 8, 2) := by decide +kernel
theorem dX10_file_204 : decode cX10_file 204 = .ok (.iconst 3, 1) := by decide +kernel
theorem dX10_file_205 : decode cX10_file 205 = .ok (.if_icmp .ge 22, 3) := by decide +kernel
theorem dX10_file_208 : decode cX10_file 208 = .ok (.aload_n 0, 1) := by decide +kernel
theorem dX10_file_209 : decode cX10_file 209 = .ok (.getfield 126, 3) := by decide +kernel
theorem dX10_file_212 : decode cX10_file 212 = .ok (.iconst 3, 1) := by decide +kernel
theorem dX10_file_213 : decode cX10_file 213 = .ok (.iload 7, 2) := by decide +kernel
theorem dX10_file_215 : decode cX10_file 215 = .ok (.imul, 1) := by decide +kernel
theorem dX10_file_216 : decode cX10_file 216 = .ok (.iload 8, 2) := by decide +kernel
theorem dX10_file_218 : decode cX10_file 218 = .ok (.iadd, 1) := by decide +kernel
theorem dX10_file_219 : decode cX10_file 219 = .ok (.iconst (-1), 1) := by decide +kernel
theorem dX10_file_220 : decode cX10_file 220 = .ok (.iastore, 1) := by decide +kernel
theorem dX10_file_221 : decode cX10_file 221 = .ok (.iinc 8 1, 3) := by decide +kernel
theorem dX10_file_224 : decode cX10_file 224 = .ok (.goto (-22), 3) := by decide +kernel
theorem dX10_file_227 : decode cX10_file 227 = .ok (.aload_n 0, 1) := by decide +kernel
theorem dX10_file_228 : decode cX10_file 228 = .ok (.dup, 1) := by decide +kernel
theorem dX10_file_229 : decode cX10_file 229 = .ok (.getfield 367, 3) := by decide +kernel
theorem dX10_file_232 : decode cX10_file 232 = .ok (.iconst 1, 1) := by decide +kernel
theorem dX10_file_233 : decode cX10_file 233 = .ok (.iadd, 1) := by decide +kernel
theorem dX10_file_234 : decode cX10_file 234 = .ok (.putfield 367, 3) := by decide +kernel
theorem dX10_file_237 : decode cX10_file 237 = .ok (.iload 7, 2) := by decide +kernel
theorem dX10_file_239 : decode cX10_file 239 = .ok (.ireturn, 1) := by decide +kernel
theorem dX10_summons_0 : decode cX10_summons 0 = .ok (.aload_n 0, 1) := by decide +kernel
theorem dX10_summons_1 : decode cX10_summons 1 = .ok (.iload_n 1, 1) := by decide +kernel
theorem dX10_summons_2 : decode cX10_summons 2 = .ok (.invokevirtual 370, 3) := by decide +kernel
theorem dX10_summons_5 : decode cX10_summons 5 = .ok (.ifCond .eq 23, 3) := by decide +kernel
theorem dX10_summons_8 : decode cX10_summons 8 = .ok (.aload_n 0, 1) := by decide +kernel
theorem dX10_summons_9 : decode cX10_summons 9 = .ok (.getfield 108, 3) := by decide +kernel
theorem dX10_summons_12 : decode cX10_summons 12 = .ok (.iload_n 1, 1) := by decide +kernel
theorem dX10_summons_13 : decode cX10_summons 13 = .ok (.iaload, 1) := by decide +kernel
theorem dX10_summons_14 : decode cX10_summons 14 = .ok (.iconst (-1), 1) := by decide +kernel
theorem dX10_summons_15 : decode cX10_summons 15 = .ok (.if_icmp .ne 13, 3) := by decide +kernel
theorem dX10_summons_18 : decode cX10_summons 18 = .ok (.aload_n 0, 1) := by decide +kernel
theorem dX10_summons_19 : decode cX10_summons 19 = .ok (.getfield 111, 3) := by decide +kernel
theorem dX10_summons_22 : decode cX10_summons 22 = .ok (.iload_n 1, 1) := by decide +kernel
theorem dX10_summons_23 : decode cX10_summons 23 = .ok (.iaload, 1) := by decide +kernel
theorem dX10_summons_24 : decode cX10_summons 24 = .ok (.iconst (-1), 1) := by decide +kernel
theorem dX10_summons_25 : decode cX10_summons 25 = .ok (.if_icmp .eq 5, 3) := by decide +kernel
theorem dX10_summons_28 : decode cX10_summons 28 = .ok (.iconst (-1), 1) := by decide +kernel
theorem dX10_summons_29 : decode cX10_summons 29 = .ok (.ireturn, 1) := by decide +kernel
theorem dX10_summons_30 : decode cX10_summons 30 = .ok (.aload_n 0, 1) := by decide +kernel
theorem dX10_summons_31 : decode cX10_summons 31 = .ok (.getfield 105, 3) := by decide +kernel
theorem dX10_summons_34 : decode cX10_summons 34 = .ok (.iload_n 1, 1) := by decide +kernel
theorem dX10_summons_35 : decode cX10_summons 35 = .ok (.dup2, 1) := by decide +kernel
theorem dX10_summons_36 : decode cX10_summons 36 = .ok (.iaload, 1) := by decide +kernel
theorem dX10_summons_37 : decode cX10_summons 37 = .ok (.iconst 1, 1) := by decide +kernel
theorem dX10_summons_38 : decode cX10_summons 38 = .ok (.iadd, 1) := by decide +kernel
theorem dX10_summons_39 : decode cX10_summons 39 = .ok (.iastore, 1) := by decide +kernel
theorem dX10_summons_40 : decode cX10_summons 40 = .ok (.iload_n 2, 1) := by decide +kernel
theorem dX10_summons_41 : decode cX10_summons 41 = .ok (.ifCond .eq 13, 3) := by decide +kernel
theorem dX10_summons_44 : decode cX10_summons 44 = .ok (.aload_n 0, 1) := by decide +kernel
theorem dX10_summons_45 : decode cX10_summons 45 = .ok (.getfield 108, 3) := by decide +kernel
theorem dX10_summons_48 : decode cX10_summons 48 = .ok (.iload_n 1, 1) := by decide +kernel
theorem dX10_summons_49 : decode cX10_summons 49 = .ok (.aload_n 0, 1) := by decide +kernel
theorem dX10_summons_50 : decode cX10_summons 50 = .ok (.getfield 232, 3) := by decide +kernel
theorem dX10_summons_53 : decode cX10_summons 53 = .ok (.iastore, 1) := by decide +kernel
theorem dX10_summons_54 : decode cX10_summons 54 = .ok (.aload_n 0, 1) := by decide +kernel
theorem dX10_summons_55 : decode cX10_summons 55 = .ok (.getfield 105, 3) := by decide +kernel
theorem dX10_summons_58 : decode cX10_summons 58 = .ok (.iload_n 1, 1) := by decide +kernel
theorem dX10_summons_59 : decode cX10_summons 59 = .ok (.iaload, 1) := by decide +kernel
theorem dX10_summons_60 : decode cX10_summons 60 = .ok (.ireturn, 1) := by decide +kernel
theorem dX10_isKinOf_0 : decode cX10_isKinOf 0 = .ok (.iload_n 1, 1) := by decide +kernel
theorem dX10_isKinOf_1 : decode cX10_isKinOf 1 = .ok (.iload_n 2, 1) := by decide +kernel
theorem dX10_isKinOf_2 : decode cX10_isKinOf 2 = .ok (.if_icmp .eq 27, 3) := by decide +kernel
theorem dX10_isKinOf_5 : decode cX10_isKinOf 5 = .ok (.aload_n 0, 1) := by decide +kernel
theorem dX10_isKinOf_6 : decode cX10_isKinOf 6 = .ok (.getfield 53, 3) := by decide +kernel
theorem dX10_isKinOf_9 : decode cX10_isKinOf 9 = .ok (.iload_n 1, 1) := by decide +kernel
theorem dX10_isKinOf_10 : decode cX10_isKinOf 10 = .ok (.iaload, 1) := by decide +kernel
theorem dX10_isKinOf_11 : decode cX10_isKinOf 11 = .ok (.ifCond .lt 22, 3) := by decide +kernel
theorem dX10_isKinOf_14 : decode cX10_isKinOf 14 = .ok (.aload_n 0, 1) := by decide +kernel
theorem dX10_isKinOf_15 : decode cX10_isKinOf 15 = .ok (.getfield 53, 3) := by decide +kernel
theorem dX10_isKinOf_18 : decode cX10_isKinOf 18 = .ok (.iload_n 1, 1) := by decide +kernel
theorem dX10_isKinOf_19 : decode cX10_isKinOf 19 = .ok (.iaload, 1) := by decide +kernel
theorem dX10_isKinOf_20 : decode cX10_isKinOf 20 = .ok (.aload_n 0, 1) := by decide +kernel
theorem dX10_isKinOf_21 : decode cX10_isKinOf 21 = .ok (.getfield 53, 3) := by decide +kernel
theorem dX10_isKinOf_24 : decode cX10_isKinOf 24 = .ok (.iload_n 2, 1) := by decide +kernel
theorem dX10_isKinOf_25 : decode cX10_isKinOf 25 = .ok (.iaload, 1) := by decide +kernel
theorem dX10_isKinOf_26 : decode cX10_isKinOf 26 = .ok (.if_icmp .ne 7, 3) := by decide +kernel
theorem dX10_isKinOf_29 : decode cX10_isKinOf 29 = .ok (.iconst 1, 1) := by decide +kernel
theorem dX10_isKinOf_30 : decode cX10_isKinOf 30 = .ok (.goto 4, 3) := by decide +kernel
theorem dX10_isKinOf_33 : decode cX10_isKinOf 33 = .ok (.iconst 0, 1) := by decide +kernel
theorem dX10_isKinOf_34 : decode cX10_isKinOf 34 = .ok (.ireturn, 1) := by decide +kernel
theorem dX10_isSo_0 : decode cX10_isSo 0 = .ok (.aload_n 0, 1) := by decide +kernel
theorem dX10_isSo_1 : decode cX10_isSo 1 = .ok (.getfield 129, 3) := by decide +kernel
theorem dX10_isSo_4 : decode cX10_isSo 4 = .ok (.bipush 8, 2) := by decide +kernel
theorem dX10_isSo_6 : decode cX10_isSo 6 = .ok (.iload_n 1, 1) := by decide +kernel
theorem dX10_isSo_7 : decode cX10_isSo 7 = .ok (.imul, 1) := by decide +kernel
theorem dX10_isSo_8 : decode cX10_isSo 8 = .ok (.iload_n 2, 1) := by decide +kernel
theorem dX10_isSo_9 : decode cX10_isSo 9 = .ok (.ldc_w 268, 3) := by decide +kernel
theorem dX10_isSo_12 : decode cX10_isSo 12 = .ok (.idiv, 1) := by decide +kernel
theorem dX10_isSo_13 : decode cX10_isSo 13 = .ok (.iadd, 1) := by decide +kernel
theorem dX10_isSo_14 : decode cX10_isSo 14 = .ok (.iconst 1, 1) := by decide +kernel
theorem dX10_isSo_15 : decode cX10_isSo 15 = .ok (.isub, 1) := by decide +kernel
theorem dX10_isSo_16 : decode cX10_isSo 16 = .ok (.iaload, 1) := by decide +kernel
theorem dX10_isSo_17 : decode cX10_isSo 17 = .ok (.istore_n 3, 1) := by decide +kernel
theorem dX10_isSo_18 : decode cX10_isSo 18 = .ok (.iload_n 2, 1) := by decide +kernel
theorem dX10_isSo_19 : decode cX10_isSo 19 = .ok (.ldc_w 269, 3) := by decide +kernel
theorem dX10_isSo_22 : decode cX10_isSo 22 = .ok (.irem, 1) := by decide +kernel
theorem dX10_isSo_23 : decode cX10_isSo 23 = .ok (.istore 4, 2) := by decide +kernel
theorem dX10_isSo_25 : decode cX10_isSo 25 = .ok (.iload 4, 2) := by decide +kernel
theorem dX10_isSo_27 : decode cX10_isSo 27 = .ok (.sipush 10000, 3) := by decide +kernel
theorem dX10_isSo_30 : decode cX10_isSo 30 = .ok (.if_icmp .lt 22, 3) := by decide +kernel
theorem dX10_isSo_33 : decode cX10_isSo 33 = .ok (.aload_n 0, 1) := by decide +kernel
theorem dX10_isSo_34 : decode cX10_isSo 34 = .ok (.getfield 129, 3) := by decide +kernel
theorem dX10_isSo_37 : decode cX10_isSo 37 = .ok (.bipush 8, 2) := by decide +kernel
theorem dX10_isSo_39 : decode cX10_isSo 39 = .ok (.iload_n 1, 1) := by decide +kernel
theorem dX10_isSo_40 : decode cX10_isSo 40 = .ok (.imul, 1) := by decide +kernel
theorem dX10_isSo_41 : decode cX10_isSo 41 = .ok (.iload 4, 2) := by decide +kernel
theorem dX10_isSo_43 : decode cX10_isSo 43 = .ok (.iadd, 1) := by decide +kernel
theorem dX10_isSo_44 : decode cX10_isSo 44 = .ok (.sipush 10000, 3) := by decide +kernel
theorem dX10_isSo_47 : decode cX10_isSo 47 = .ok (.isub, 1) := by decide +kernel
theorem dX10_isSo_48 : decode cX10_isSo 48 = .ok (.iaload, 1) := by decide +kernel
theorem dX10_isSo_49 : decode cX10_isSo 49 = .ok (.goto 5, 3) := by decide +kernel
theorem dX10_isSo_52 : decode cX10_isSo 52 = .ok (.iload 4, 2) := by decide +kernel
theorem dX10_isSo_54 : decode cX10_isSo 54 = .ok (.istore 5, 2) := by decide +kernel
theorem dX10_isSo_56 : decode cX10_isSo 56 = .ok (.iload_n 2, 1) := by decide +kernel
theorem dX10_isSo_57 : decode cX10_isSo 57 = .ok (.ldc_w 269, 3) := by decide +kernel
theorem dX10_isSo_60 : decode cX10_isSo 60 = .ok (.idiv, 1) := by decide +kernel
theorem dX10_isSo_61 : decode cX10_isSo 61 = .ok (.bipush 10, 2) := by decide +kernel
theorem dX10_isSo_63 : decode cX10_isSo 63 = .ok (.irem, 1) := by decide +kernel
theorem dX10_isSo_64 : decode cX10_isSo 64 = .ok (.tableswitch 80 0 3 #[32, 44, 56, 68], 32) := by decide +kernel
theorem dX10_isSo_96 : decode cX10_isSo 96 = .ok (.iload_n 3, 1) := by decide +kernel
theorem dX10_isSo_97 : decode cX10_isSo 97 = .ok (.iload 5, 2) := by decide +kernel
theorem dX10_isSo_99 : decode cX10_isSo 99 = .ok (.if_icmp .ge 7, 3) := by decide +kernel
theorem dX10_isSo_102 : decode cX10_isSo 102 = .ok (.iconst 1, 1) := by decide +kernel
theorem dX10_isSo_103 : decode cX10_isSo 103 = .ok (.goto 4, 3) := by decide +kernel
theorem dX10_isSo_106 : decode cX10_isSo 106 = .ok (.iconst 0, 1) := by decide +kernel
theorem dX10_isSo_107 : decode cX10_isSo 107 = .ok (.ireturn, 1) := by decide +kernel
theorem dX10_isSo_108 : decode cX10_isSo 108 = .ok (.iload_n 3, 1) := by decide +kernel
theorem dX10_isSo_109 : decode cX10_isSo 109 = .ok (.iload 5, 2) := by decide +kernel
theorem dX10_isSo_111 : decode cX10_isSo 111 = .ok (.if_icmp .gt 7, 3) := by decide +kernel
theorem dX10_isSo_114 : decode cX10_isSo 114 = .ok (.iconst 1, 1) := by decide +kernel
theorem dX10_isSo_115 : decode cX10_isSo 115 = .ok (.goto 4, 3) := by decide +kernel
theorem dX10_isSo_118 : decode cX10_isSo 118 = .ok (.iconst 0, 1) := by decide +kernel
theorem dX10_isSo_119 : decode cX10_isSo 119 = .ok (.ireturn, 1) := by decide +kernel
theorem dX10_isSo_120 : decode cX10_isSo 120 = .ok (.iload_n 3, 1) := by decide +kernel
theorem dX10_isSo_121 : decode cX10_isSo 121 = .ok (.iload 5, 2) := by decide +kernel
theorem dX10_isSo_123 : decode cX10_isSo 123 = .ok (.if_icmp .ne 7, 3) := by decide +kernel
theorem dX10_isSo_126 : decode cX10_isSo 126 = .ok (.iconst 1, 1) := by decide +kernel
theorem dX10_isSo_127 : decode cX10_isSo 127 = .ok (.goto 4, 3) := by decide +kernel
theorem dX10_isSo_130 : decode cX10_isSo 130 = .ok (.iconst 0, 1) := by decide +kernel
theorem dX10_isSo_131 : decode cX10_isSo 131 = .ok (.ireturn, 1) := by decide +kernel
theorem dX10_isSo_132 : decode cX10_isSo 132 = .ok (.iload_n 3, 1) := by decide +kernel
theorem dX10_isSo_133 : decode cX10_isSo 133 = .ok (.iload 5, 2) := by decide +kernel
theorem dX10_isSo_135 : decode cX10_isSo 135 = .ok (.if_icmp .lt 7, 3) := by decide +kernel
theorem dX10_isSo_138 : decode cX10_isSo 138 = .ok (.iconst 1, 1) := by decide +kernel
theorem dX10_isSo_139 : decode cX10_isSo 139 = .ok (.goto 4, 3) := by decide +kernel
theorem dX10_isSo_142 : decode cX10_isSo 142 = .ok (.iconst 0, 1) := by decide +kernel
theorem dX10_isSo_143 : decode cX10_isSo 143 = .ok (.ireturn, 1) := by decide +kernel
theorem dX10_isSo_144 : decode cX10_isSo 144 = .ok (.iload_n 3, 1) := by decide +kernel
theorem dX10_isSo_145 : decode cX10_isSo 145 = .ok (.iload 5, 2) := by decide +kernel
theorem dX10_isSo_147 : decode cX10_isSo 147 = .ok (.if_icmp .le 7, 3) := by decide +kernel
theorem dX10_isSo_150 : decode cX10_isSo 150 = .ok (.iconst 1, 1) := by decide +kernel
theorem dX10_isSo_151 : decode cX10_isSo 151 = .ok (.goto 4, 3) := by decide +kernel
theorem dX10_isSo_154 : decode cX10_isSo 154 = .ok (.iconst 0, 1) := by decide +kernel
theorem dX10_isSo_155 : decode cX10_isSo 155 = .ok (.ireturn, 1) := by decide +kernel
theorem dX10_isProved_0 : decode cX10_isProved 0 = .ok (.iconst 0, 1) := by decide +kernel
theorem dX10_isProved_1 : decode cX10_isProved 1 = .ok (.istore_n 3, 1) := by decide +kernel
theorem dX10_isProved_2 : decode cX10_isProved 2 = .ok (.iconst 0, 1) := by decide +kernel
theorem dX10_isProved_3 : decode cX10_isProved 3 = .ok (.istore 4, 2) := by decide +kernel
theorem dX10_isProved_5 : decode cX10_isProved 5 = .ok (.iload 4, 2) := by decide +kernel
theorem dX10_isProved_7 : decode cX10_isProved 7 = .ok (.aload_n 0, 1) := by decide +kernel
theorem dX10_isProved_8 : decode cX10_isProved 8 = .ok (.getfield 16, 3) := by decide +kernel
theorem dX10_isProved_11 : decode cX10_isProved 11 = .ok (.iload_n 2, 1) := by decide +kernel
theorem dX10_isProved_12 : decode cX10_isProved 12 = .ok (.iaload, 1) := by decide +kernel
theorem dX10_isProved_13 : decode cX10_isProved 13 = .ok (.if_icmp .ge 154, 3) := by decide +kernel
theorem dX10_isProved_16 : decode cX10_isProved 16 = .ok (.aload_n 0, 1) := by decide +kernel
theorem dX10_isProved_17 : decode cX10_isProved 17 = .ok (.getfield 19, 3) := by decide +kernel
theorem dX10_isProved_20 : decode cX10_isProved 20 = .ok (.sipush 128, 3) := by decide +kernel
theorem dX10_isProved_23 : decode cX10_isProved 23 = .ok (.iload_n 2, 1) := by decide +kernel
theorem dX10_isProved_24 : decode cX10_isProved 24 = .ok (.imul, 1) := by decide +kernel
theorem dX10_isProved_25 : decode cX10_isProved 25 = .ok (.iload 4, 2) := by decide +kernel
theorem dX10_isProved_27 : decode cX10_isProved 27 = .ok (.iadd, 1) := by decide +kernel
theorem dX10_isProved_28 : decode cX10_isProved 28 = .ok (.iaload, 1) := by decide +kernel
theorem dX10_isProved_29 : decode cX10_isProved 29 = .ok (.istore 5, 2) := by decide +kernel
theorem dX10_isProved_31 : decode cX10_isProved 31 = .ok (.iload 5, 2) := by decide +kernel
theorem dX10_isProved_33 : decode cX10_isProved 33 = .ok (.ldc_w 268, 3) := by decide +kernel
theorem dX10_isProved_36 : decode cX10_isProved 36 = .ok (.if_icmp .lt 22, 3) := by decide +kernel
theorem dX10_isProved_39 : decode cX10_isProved 39 = .ok (.aload_n 0, 1) := by decide +kernel
theorem dX10_isProved_40 : decode cX10_isProved 40 = .ok (.getfield 162, 3) := by decide +kernel
theorem dX10_isProved_43 : decode cX10_isProved 43 = .ok (.iload_n 3, 1) := by decide +kernel
theorem dX10_isProved_44 : decode cX10_isProved 44 = .ok (.aload_n 0, 1) := by decide +kernel
theorem dX10_isProved_45 : decode cX10_isProved 45 = .ok (.iload_n 1, 1) := by decide +kernel
theorem dX10_isProved_46 : decode cX10_isProved 46 = .ok (.iload 5, 2) := by decide +kernel
theorem dX10_isProved_48 : decode cX10_isProved 48 = .ok (.invokevirtual 373, 3) := by decide +kernel
theorem dX10_isProved_51 : decode cX10_isProved 51 = .ok (.bastore, 1) := by decide +kernel
theorem dX10_isProved_52 : decode cX10_isProved 52 = .ok (.iinc 3 1, 3) := by decide +kernel
theorem dX10_isProved_55 : decode cX10_isProved 55 = .ok (.goto 106, 3) := by decide +kernel
theorem dX10_isProved_58 : decode cX10_isProved 58 = .ok (.iload 5, 2) := by decide +kernel
theorem dX10_isProved_60 : decode cX10_isProved 60 = .ok (.iconst 2, 1) := by decide +kernel
theorem dX10_isProved_61 : decode cX10_isProved 61 = .ok (.if_icmp .ne 30, 3) := by decide +kernel
theorem dX10_isProved_64 : decode cX10_isProved 64 = .ok (.aload_n 0, 1) := by decide +kernel
theorem dX10_isProved_65 : decode cX10_isProved 65 = .ok (.getfield 162, 3) := by decide +kernel
theorem dX10_isProved_68 : decode cX10_isProved 68 = .ok (.iload_n 3, 1) := by decide +kernel
theorem dX10_isProved_69 : decode cX10_isProved 69 = .ok (.iconst 1, 1) := by decide +kernel
theorem dX10_isProved_70 : decode cX10_isProved 70 = .ok (.isub, 1) := by decide +kernel
theorem dX10_isProved_71 : decode cX10_isProved 71 = .ok (.aload_n 0, 1) := by decide +kernel
theorem dX10_isProved_72 : decode cX10_isProved 72 = .ok (.getfield 162, 3) := by decide +kernel
theorem dX10_isProved_75 : decode cX10_isProved 75 = .ok (.iload_n 3, 1) := by decide +kernel
theorem dX10_isProved_76 : decode cX10_isProved 76 = .ok (.iconst 1, 1) := by decide +kernel
theorem dX10_isProved_77 : decode cX10_isProved 77 = .ok (.isub, 1) := by decide +kernel
theorem dX10_isProved_78 : decode cX10_isProved 78 = .ok (.baload, 1) := by decide +kernel
theorem dX10_isProved_79 : decode cX10_isProved 79 = .ok (.ifCond .ne 7, 3) := by decide +kernel
theorem dX10_isProved_82 : decode cX10_isProved 82 = .ok (.iconst 1, 1) := by decide +kernel
theorem dX10_isProved_83 : decode cX10_isProved 83 = .ok (.goto 4, 3) := by decide +kernel
theorem dX10_isProved_86 : decode cX10_isProved 86 = .ok (.iconst 0, 1) := by decide +kernel
theorem dX10_isProved_87 : decode cX10_isProved 87 = .ok (.bastore, 1) := by decide +kernel
theorem dX10_isProved_88 : decode cX10_isProved 88 = .ok (.goto 73, 3) := by decide +kernel
theorem dX10_isProved_91 : decode cX10_isProved 91 = .ok (.iinc 3 (-1), 3) := by decide +kernel
theorem dX10_isProved_94 : decode cX10_isProved 94 = .ok (.aload_n 0, 1) := by decide +kernel
theorem dX10_isProved_95 : decode cX10_isProved 95 = .ok (.getfield 162, 3) := by decide +kernel
theorem dX10_isProved_98 : decode cX10_isProved 98 = .ok (.iload_n 3, 1) := by decide +kernel
theorem dX10_isProved_99 : decode cX10_isProved 99 = .ok (.iconst 1, 1) := by decide +kernel
theorem dX10_isProved_100 : decode cX10_isProved 100 = .ok (.isub, 1) := by decide +kernel
theorem dX10_isProved_101 : decode cX10_isProved 101 = .ok (.iload 5, 2) := by decide +kernel
theorem dX10_isProved_103 : decode cX10_isProved 103 = .ok (.iconst 1, 1) := by decide +kernel
theorem dX10_isProved_104 : decode cX10_isProved 104 = .ok (.if_icmp .ne 31, 3) := by decide +kernel
theorem dX10_isProved_107 : decode cX10_isProved 107 = .ok (.aload_n 0, 1) := by decide +kernel
theorem dX10_isProved_108 : decode cX10_isProved 108 = .ok (.getfield 162, 3) := by decide +kernel
theorem dX10_isProved_111 : decode cX10_isProved 111 = .ok (.iload_n 3, 1) := by decide +kernel
theorem dX10_isProved_112 : decode cX10_isProved 112 = .ok (.iconst 1, 1) := by decide +kernel
theorem dX10_isProved_113 : decode cX10_isProved 113 = .ok (.isub, 1) := by decide +kernel
theorem dX10_isProved_114 : decode cX10_isProved 114 = .ok (.baload, 1) := by decide +kernel
theorem dX10_isProved_115 : decode cX10_isProved 115 = .ok (.ifCond .eq 16, 3) := by decide +kernel
theorem dX10_isProved_118 : decode cX10_isProved 118 = .ok (.aload_n 0, 1) := by decide +kernel
theorem dX10_isProved_119 : decode cX10_isProved 119 = .ok (.getfield 162, 3) := by decide +kernel
theorem dX10_isProved_122 : decode cX10_isProved 122 = .ok (.iload_n 3, 1) := by decide +kernel
theorem dX10_isProved_123 : decode cX10_isProved 123 = .ok (.baload, 1) := by decide +kernel
theorem dX10_isProved_124 : decode cX10_isProved 124 = .ok (.ifCond .eq 7, 3) := by decide +kernel
theorem dX10_isProved_127 : decode cX10_isProved 127 = .ok (.iconst 1, 1) := by decide +kernel
theorem dX10_isProved_128 : decode cX10_isProved 128 = .ok (.goto 32, 3) := by decide +kernel
theorem dX10_isProved_131 : decode cX10_isProved 131 = .ok (.iconst 0, 1) := by decide +kernel
theorem dX10_isProved_132 : decode cX10_isProved 132 = .ok (.goto 28, 3) := by decide +kernel
theorem dX10_isProved_135 : decode cX10_isProved 135 = .ok (.aload_n 0, 1) := by decide +kernel
theorem dX10_isProved_136 : decode cX10_isProved 136 = .ok (.getfield 162, 3) := by decide +kernel
theorem dX10_isProved_139 : decode cX10_isProved 139 = .ok (.iload_n 3, 1) := by decide +kernel
theorem dX10_isProved_140 : decode cX10_isProved 140 = .ok (.iconst 1, 1) := by decide +kernel
theorem dX10_isProved_141 : decode cX10_isProved 141 = .ok (.isub, 1) := by decide +kernel
theorem dX10_isProved_142 : decode cX10_isProved 142 = .ok (.baload, 1) := by decide +kernel
theorem dX10_isProved_143 : decode cX10_isProved 143 = .ok (.ifCond .ne 12, 3) := by decide +kernel
theorem dX10_isProved_146 : decode cX10_isProved 146 = .ok (.aload_n 0, 1) := by decide +kernel
theorem dX10_isProved_147 : decode cX10_isProved 147 = .ok (.getfield 162, 3) := by decide +kernel
theorem dX10_isProved_150 : decode cX10_isProved 150 = .ok (.iload_n 3, 1) := by decide +kernel
theorem dX10_isProved_151 : decode cX10_isProved 151 = .ok (.baload, 1) := by decide +kernel
theorem dX10_isProved_152 : decode cX10_isProved 152 = .ok (.ifCond .eq 7, 3) := by decide +kernel
theorem dX10_isProved_155 : decode cX10_isProved 155 = .ok (.iconst 1, 1) := by decide +kernel
theorem dX10_isProved_156 : decode cX10_isProved 156 = .ok (.goto 4, 3) := by decide +kernel
theorem dX10_isProved_159 : decode cX10_isProved 159 = .ok (.iconst 0, 1) := by decide +kernel
theorem dX10_isProved_160 : decode cX10_isProved 160 = .ok (.bastore, 1) := by decide +kernel
theorem dX10_isProved_161 : decode cX10_isProved 161 = .ok (.iinc 4 1, 3) := by decide +kernel
theorem dX10_isProved_164 : decode cX10_isProved 164 = .ok (.goto (-159), 3) := by decide +kernel
theorem dX10_isProved_167 : decode cX10_isProved 167 = .ok (.aload_n 0, 1) := by decide +kernel
theorem dX10_isProved_168 : decode cX10_isProved 168 = .ok (.getfield 162, 3) := by decide +kernel
theorem dX10_isProved_171 : decode cX10_isProved 171 = .ok (.iconst 0, 1) := by decide +kernel
theorem dX10_isProved_172 : decode cX10_isProved 172 = .ok (.baload, 1) := by decide +kernel
theorem dX10_isProved_173 : decode cX10_isProved 173 = .ok (.ireturn, 1) := by decide +kernel
theorem dX10_isSplit_0 : decode cX10_isSplit 0 = .ok (.iconst 0, 1) := by decide +kernel
theorem dX10_isSplit_1 : decode cX10_isSplit 1 = .ok (.istore_n 3, 1) := by decide +kernel
theorem dX10_isSplit_2 : decode cX10_isSplit 2 = .ok (.iconst 0, 1) := by decide +kernel
theorem dX10_isSplit_3 : decode cX10_isSplit 3 = .ok (.istore 4, 2) := by decide +kernel
theorem dX10_isSplit_5 : decode cX10_isSplit 5 = .ok (.iconst 0, 1) := by decide +kernel
theorem dX10_isSplit_6 : decode cX10_isSplit 6 = .ok (.istore 5, 2) := by decide +kernel
theorem dX10_isSplit_8 : decode cX10_isSplit 8 = .ok (.iload 5, 2) := by decide +kernel
theorem dX10_isSplit_10 : decode cX10_isSplit 10 = .ok (.aload_n 0, 1) := by decide +kernel
theorem dX10_isSplit_11 : decode cX10_isSplit 11 = .ok (.getfield 367, 3) := by decide +kernel
theorem dX10_isSplit_14 : decode cX10_isSplit 14 = .ok (.if_icmp .ge 82, 3) := by decide +kernel
theorem dX10_isSplit_17 : decode cX10_isSplit 17 = .ok (.aload_n 0, 1) := by decide +kernel
theorem dX10_isSplit_18 : decode cX10_isSplit 18 = .ok (.getfield 81, 3) := by decide +kernel
theorem dX10_isSplit_21 : decode cX10_isSplit 21 = .ok (.iload 5, 2) := by decide +kernel
theorem dX10_isSplit_23 : decode cX10_isSplit 23 = .ok (.iaload, 1) := by decide +kernel
theorem dX10_isSplit_24 : decode cX10_isSplit 24 = .ok (.aload_n 0, 1) := by decide +kernel
theorem dX10_isSplit_25 : decode cX10_isSplit 25 = .ok (.getfield 81, 3) := by decide +kernel
theorem dX10_isSplit_28 : decode cX10_isSplit 28 = .ok (.iload_n 1, 1) := by decide +kernel
theorem dX10_isSplit_29 : decode cX10_isSplit 29 = .ok (.iaload, 1) := by decide +kernel
theorem dX10_isSplit_30 : decode cX10_isSplit 30 = .ok (.if_icmp .ne 60, 3) := by decide +kernel
theorem dX10_isSplit_33 : decode cX10_isSplit 33 = .ok (.aload_n 0, 1) := by decide +kernel
theorem dX10_isSplit_34 : decode cX10_isSplit 34 = .ok (.getfield 84, 3) := by decide +kernel
theorem dX10_isSplit_37 : decode cX10_isSplit 37 = .ok (.iload 5, 2) := by decide +kernel
theorem dX10_isSplit_39 : decode cX10_isSplit 39 = .ok (.iaload, 1) := by decide +kernel
theorem dX10_isSplit_40 : decode cX10_isSplit 40 = .ok (.aload_n 0, 1) := by decide +kernel
theorem dX10_isSplit_41 : decode cX10_isSplit 41 = .ok (.getfield 84, 3) := by decide +kernel
theorem dX10_isSplit_44 : decode cX10_isSplit 44 = .ok (.iload_n 1, 1) := by decide +kernel
theorem dX10_isSplit_45 : decode cX10_isSplit 45 = .ok (.iaload, 1) := by decide +kernel
theorem dX10_isSplit_46 : decode cX10_isSplit 46 = .ok (.if_icmp .ne 44, 3) := by decide +kernel
theorem dX10_isSplit_49 : decode cX10_isSplit 49 = .ok (.aload_n 0, 1) := by decide +kernel
theorem dX10_isSplit_50 : decode cX10_isSplit 50 = .ok (.getfield 99, 3) := by decide +kernel
theorem dX10_isSplit_53 : decode cX10_isSplit 53 = .ok (.iload 5, 2) := by decide +kernel
theorem dX10_isSplit_55 : decode cX10_isSplit 55 = .ok (.iaload, 1) := by decide +kernel
theorem dX10_isSplit_56 : decode cX10_isSplit 56 = .ok (.aload_n 0, 1) := by decide +kernel
theorem dX10_isSplit_57 : decode cX10_isSplit 57 = .ok (.getfield 99, 3) := by decide +kernel
theorem dX10_isSplit_60 : decode cX10_isSplit 60 = .ok (.iload_n 1, 1) := by decide +kernel
theorem dX10_isSplit_61 : decode cX10_isSplit 61 = .ok (.iaload, 1) := by decide +kernel
theorem dX10_isSplit_62 : decode cX10_isSplit 62 = .ok (.aload_n 0, 1) := by decide +kernel
theorem dX10_isSplit_63 : decode cX10_isSplit 63 = .ok (.iload_n 2, 1) := by decide +kernel
theorem dX10_isSplit_64 : decode cX10_isSplit 64 = .ok (.iconst 1, 1) := by decide +kernel
theorem dX10_isSplit_65 : decode cX10_isSplit 65 = .ok (.invokevirtual 333, 3) := by decide +kernel
theorem dX10_isSplit_68 : decode cX10_isSplit 68 = .ok (.isub, 1) := by decide +kernel
theorem dX10_isSplit_69 : decode cX10_isSplit 69 = .ok (.if_icmp .ge 6, 3) := by decide +kernel
theorem dX10_isSplit_72 : decode cX10_isSplit 72 = .ok (.goto 18, 3) := by decide +kernel
theorem dX10_isSplit_75 : decode cX10_isSplit 75 = .ok (.iinc 3 1, 3) := by decide +kernel
theorem dX10_isSplit_78 : decode cX10_isSplit 78 = .ok (.iload 4, 2) := by decide +kernel
theorem dX10_isSplit_80 : decode cX10_isSplit 80 = .ok (.aload_n 0, 1) := by decide +kernel
theorem dX10_isSplit_81 : decode cX10_isSplit 81 = .ok (.getfield 87, 3) := by decide +kernel
theorem dX10_isSplit_84 : decode cX10_isSplit 84 = .ok (.iload 5, 2) := by decide +kernel
theorem dX10_isSplit_86 : decode cX10_isSplit 86 = .ok (.iaload, 1) := by decide +kernel
theorem dX10_isSplit_87 : decode cX10_isSplit 87 = .ok (.iadd, 1) := by decide +kernel
theorem dX10_isSplit_88 : decode cX10_isSplit 88 = .ok (.istore 4, 2) := by decide +kernel
theorem dX10_isSplit_90 : decode cX10_isSplit 90 = .ok (.iinc 5 1, 3) := by decide +kernel
theorem dX10_isSplit_93 : decode cX10_isSplit 93 = .ok (.goto (-85), 3) := by decide +kernel
theorem dX10_isSplit_96 : decode cX10_isSplit 96 = .ok (.iload_n 3, 1) := by decide +kernel
theorem dX10_isSplit_97 : decode cX10_isSplit 97 = .ok (.iconst 1, 1) := by decide +kernel
theorem dX10_isSplit_98 : decode cX10_isSplit 98 = .ok (.if_icmp .le 18, 3) := by decide +kernel
theorem dX10_isSplit_101 : decode cX10_isSplit 101 = .ok (.iload 4, 2) := by decide +kernel
theorem dX10_isSplit_103 : decode cX10_isSplit 103 = .ok (.aload_n 0, 1) := by decide +kernel
theorem dX10_isSplit_104 : decode cX10_isSplit 104 = .ok (.iload_n 2, 1) := by decide +kernel
theorem dX10_isSplit_105 : decode cX10_isSplit 105 = .ok (.iconst 0, 1) := by decide +kernel
theorem dX10_isSplit_106 : decode cX10_isSplit 106 = .ok (.invokevirtual 333, 3) := by decide +kernel
theorem dX10_isSplit_109 : decode cX10_isSplit 109 = .ok (.if_icmp .le 7, 3) := by decide +kernel
theorem dX10_isSplit_112 : decode cX10_isSplit 112 = .ok (.iconst 1, 1) := by decide +kernel
theorem dX10_isSplit_113 : decode cX10_isSplit 113 = .ok (.goto 4, 3) := by decide +kernel
theorem dX10_isSplit_116 : decode cX10_isSplit 116 = .ok (.iconst 0, 1) := by decide +kernel
theorem dX10_isSplit_117 : decode cX10_isSplit 117 = .ok (.ireturn, 1) := by decide +kernel
theorem dX10_judges_0 : decode cX10_judges 0 = .ok (.aload_n 0, 1) := by decide +kernel
theorem dX10_judges_1 : decode cX10_judges 1 = .ok (.getfield 90, 3) := by decide +kernel
theorem dX10_judges_4 : decode cX10_judges 4 = .ok (.iload_n 1, 1) := by decide +kernel
theorem dX10_judges_5 : decode cX10_judges 5 = .ok (.iaload, 1) := by decide +kernel
theorem dX10_judges_6 : decode cX10_judges 6 = .ok (.aload_n 0, 1) := by decide +kernel
theorem dX10_judges_7 : decode cX10_judges 7 = .ok (.getfield 38, 3) := by decide +kernel
theorem dX10_judges_10 : decode cX10_judges 10 = .ok (.aload_n 0, 1) := by decide +kernel
theorem dX10_judges_11 : decode cX10_judges 11 = .ok (.getfield 84, 3) := by decide +kernel
theorem dX10_judges_14 : decode cX10_judges 14 = .ok (.iload_n 1, 1) := by decide +kernel
theorem dX10_judges_15 : decode cX10_judges 15 = .ok (.iaload, 1) := by decide +kernel
theorem dX10_judges_16 : decode cX10_judges 16 = .ok (.iaload, 1) := by decide +kernel
theorem dX10_judges_17 : decode cX10_judges 17 = .ok (.isub, 1) := by decide +kernel
theorem dX10_judges_18 : decode cX10_judges 18 = .ok (.sipush 365, 3) := by decide +kernel
theorem dX10_judges_21 : decode cX10_judges 21 = .ok (.aload_n 0, 1) := by decide +kernel
theorem dX10_judges_22 : decode cX10_judges 22 = .ok (.iload_n 2, 1) := by decide +kernel
theorem dX10_judges_23 : decode cX10_judges 23 = .ok (.bipush 8, 2) := by decide +kernel
theorem dX10_judges_25 : decode cX10_judges 25 = .ok (.invokevirtual 333, 3) := by decide +kernel
theorem dX10_judges_28 : decode cX10_judges 28 = .ok (.imul, 1) := by decide +kernel
theorem dX10_judges_29 : decode cX10_judges 29 = .ok (.if_icmp .ge 5, 3) := by decide +kernel
theorem dX10_judges_32 : decode cX10_judges 32 = .ok (.iconst 1, 1) := by decide +kernel
theorem dX10_judges_33 : decode cX10_judges 33 = .ok (.ireturn, 1) := by decide +kernel
theorem dX10_judges_34 : decode cX10_judges 34 = .ok (.aload_n 0, 1) := by decide +kernel
theorem dX10_judges_35 : decode cX10_judges 35 = .ok (.getfield 87, 3) := by decide +kernel
theorem dX10_judges_38 : decode cX10_judges 38 = .ok (.iload_n 1, 1) := by decide +kernel
theorem dX10_judges_39 : decode cX10_judges 39 = .ok (.iaload, 1) := by decide +kernel
theorem dX10_judges_40 : decode cX10_judges 40 = .ok (.aload_n 0, 1) := by decide +kernel
theorem dX10_judges_41 : decode cX10_judges 41 = .ok (.iload_n 2, 1) := by decide +kernel
theorem dX10_judges_42 : decode cX10_judges 42 = .ok (.iconst 0, 1) := by decide +kernel
theorem dX10_judges_43 : decode cX10_judges 43 = .ok (.invokevirtual 333, 3) := by decide +kernel
theorem dX10_judges_46 : decode cX10_judges 46 = .ok (.if_icmp .le 5, 3) := by decide +kernel
theorem dX10_judges_49 : decode cX10_judges 49 = .ok (.iconst 2, 1) := by decide +kernel
theorem dX10_judges_50 : decode cX10_judges 50 = .ok (.ireturn, 1) := by decide +kernel
theorem dX10_judges_51 : decode cX10_judges 51 = .ok (.aload_n 0, 1) := by decide +kernel
theorem dX10_judges_52 : decode cX10_judges 52 = .ok (.iload_n 1, 1) := by decide +kernel
theorem dX10_judges_53 : decode cX10_judges 53 = .ok (.iload_n 2, 1) := by decide +kernel
theorem dX10_judges_54 : decode cX10_judges 54 = .ok (.invokevirtual 376, 3) := by decide +kernel
theorem dX10_judges_57 : decode cX10_judges 57 = .ok (.ifCond .eq 5, 3) := by decide +kernel
theorem dX10_judges_60 : decode cX10_judges 60 = .ok (.iconst 3, 1) := by decide +kernel
theorem dX10_judges_61 : decode cX10_judges 61 = .ok (.ireturn, 1) := by decide +kernel
theorem dX10_judges_62 : decode cX10_judges 62 = .ok (.aload_n 0, 1) := by decide +kernel
theorem dX10_judges_63 : decode cX10_judges 63 = .ok (.iload_n 1, 1) := by decide +kernel
theorem dX10_judges_64 : decode cX10_judges 64 = .ok (.iload_n 2, 1) := by decide +kernel
theorem dX10_judges_65 : decode cX10_judges 65 = .ok (.invokevirtual 379, 3) := by decide +kernel
theorem dX10_judges_68 : decode cX10_judges 68 = .ok (.ifCond .eq 7, 3) := by decide +kernel
theorem dX10_judges_71 : decode cX10_judges 71 = .ok (.iconst 5, 1) := by decide +kernel
theorem dX10_judges_72 : decode cX10_judges 72 = .ok (.goto 4, 3) := by decide +kernel
theorem dX10_judges_75 : decode cX10_judges 75 = .ok (.iconst 4, 1) := by decide +kernel
theorem dX10_judges_76 : decode cX10_judges 76 = .ok (.ireturn, 1) := by decide +kernel
theorem dX10_sits_0 : decode cX10_sits 0 = .ok (.iconst 0, 1) := by decide +kernel
theorem dX10_sits_1 : decode cX10_sits 1 = .ok (.istore_n 2, 1) := by decide +kernel
theorem dX10_sits_2 : decode cX10_sits 2 = .ok (.iconst 0, 1) := by decide +kernel
theorem dX10_sits_3 : decode cX10_sits 3 = .ok (.istore_n 3, 1) := by decide +kernel
theorem dX10_sits_4 : decode cX10_sits 4 = .ok (.iload_n 3, 1) := by decide +kernel
theorem dX10_sits_5 : decode cX10_sits 5 = .ok (.aload_n 0, 1) := by decide +kernel
theorem dX10_sits_6 : decode cX10_sits 6 = .ok (.getfield 337, 3) := by decide +kernel
theorem dX10_sits_9 : decode cX10_sits 9 = .ok (.if_icmp .ge 68, 3) := by decide +kernel
theorem dX10_sits_12 : decode cX10_sits 12 = .ok (.aload_n 0, 1) := by decide +kernel
theorem dX10_sits_13 : decode cX10_sits 13 = .ok (.getfield 60, 3) := by decide +kernel
theorem dX10_sits_16 : decode cX10_sits 16 = .ok (.iload_n 3, 1) := by decide +kernel
theorem dX10_sits_17 : decode cX10_sits 17 = .ok (.baload, 1) := by decide +kernel
theorem dX10_sits_18 : decode cX10_sits 18 = .ok (.ifCond .eq 53, 3) := by decide +kernel
theorem dX10_sits_21 : decode cX10_sits 21 = .ok (.aload_n 0, 1) := by decide +kernel
theorem dX10_sits_22 : decode cX10_sits 22 = .ok (.getfield 56, 3) := by decide +kernel
theorem dX10_sits_25 : decode cX10_sits 25 = .ok (.iload_n 3, 1) := by decide +kernel
theorem dX10_sits_26 : decode cX10_sits 26 = .ok (.baload, 1) := by decide +kernel
theorem dX10_sits_27 : decode cX10_sits 27 = .ok (.ifCond .ne 44, 3) := by decide +kernel
theorem dX10_sits_30 : decode cX10_sits 30 = .ok (.aload_n 0, 1) := by decide +kernel
theorem dX10_sits_31 : decode cX10_sits 31 = .ok (.iload_n 3, 1) := by decide +kernel
theorem dX10_sits_32 : decode cX10_sits 32 = .ok (.aload_n 0, 1) := by decide +kernel
theorem dX10_sits_33 : decode cX10_sits 33 = .ok (.getfield 81, 3) := by decide +kernel
theorem dX10_sits_36 : decode cX10_sits 36 = .ok (.iload_n 1, 1) := by decide +kernel
theorem dX10_sits_37 : decode cX10_sits 37 = .ok (.iaload, 1) := by decide +kernel
theorem dX10_sits_38 : decode cX10_sits 38 = .ok (.invokevirtual 382, 3) := by decide +kernel
theorem dX10_sits_41 : decode cX10_sits 41 = .ok (.ifCond .ne 30, 3) := by decide +kernel
theorem dX10_sits_44 : decode cX10_sits 44 = .ok (.aload_n 0, 1) := by decide +kernel
theorem dX10_sits_45 : decode cX10_sits 45 = .ok (.iload_n 3, 1) := by decide +kernel
theorem dX10_sits_46 : decode cX10_sits 46 = .ok (.aload_n 0, 1) := by decide +kernel
theorem dX10_sits_47 : decode cX10_sits 47 = .ok (.getfield 84, 3) := by decide +kernel
theorem dX10_sits_50 : decode cX10_sits 50 = .ok (.iload_n 1, 1) := by decide +kernel
theorem dX10_sits_51 : decode cX10_sits 51 = .ok (.iaload, 1) := by decide +kernel
theorem dX10_sits_52 : decode cX10_sits 52 = .ok (.invokevirtual 382, 3) := by decide +kernel
theorem dX10_sits_55 : decode cX10_sits 55 = .ok (.ifCond .eq 6, 3) := by decide +kernel
theorem dX10_sits_58 : decode cX10_sits 58 = .ok (.goto 13, 3) := by decide +kernel
theorem dX10_sits_61 : decode cX10_sits 61 = .ok (.aload_n 0, 1) := by decide +kernel
theorem dX10_sits_62 : decode cX10_sits 62 = .ok (.getfield 159, 3) := by decide +kernel
theorem dX10_sits_65 : decode cX10_sits 65 = .ok (.iload_n 2, 1) := by decide +kernel
theorem dX10_sits_66 : decode cX10_sits 66 = .ok (.iload_n 3, 1) := by decide +kernel
theorem dX10_sits_67 : decode cX10_sits 67 = .ok (.iastore, 1) := by decide +kernel
theorem dX10_sits_68 : decode cX10_sits 68 = .ok (.iinc 2 1, 3) := by decide +kernel
theorem dX10_sits_71 : decode cX10_sits 71 = .ok (.iinc 3 1, 3) := by decide +kernel
theorem dX10_sits_74 : decode cX10_sits 74 = .ok (.goto (-70), 3) := by decide +kernel
theorem dX10_sits_77 : decode cX10_sits 77 = .ok (.iload_n 2, 1) := by decide +kernel
theorem dX10_sits_78 : decode cX10_sits 78 = .ok (.ireturn, 1) := by decide +kernel
theorem dX10_draws_0 : decode cX10_draws 0 = .ok (.iload_n 3, 1) := by decide +kernel
theorem dX10_draws_1 : decode cX10_draws 1 = .ok (.istore 4, 2) := by decide +kernel
theorem dX10_draws_3 : decode cX10_draws 3 = .ok (.iconst 0, 1) := by decide +kernel
theorem dX10_draws_4 : decode cX10_draws 4 = .ok (.istore 5, 2) := by decide +kernel
theorem dX10_draws_6 : decode cX10_draws 6 = .ok (.iload 5, 2) := by decide +kernel
theorem dX10_draws_8 : decode cX10_draws 8 = .ok (.iload_n 2, 1) := by decide +kernel
theorem dX10_draws_9 : decode cX10_draws 9 = .ok (.if_icmp .ge 102, 3) := by decide +kernel
theorem dX10_draws_12 : decode cX10_draws 12 = .ok (.iload 5, 2) := by decide +kernel
theorem dX10_draws_14 : decode cX10_draws 14 = .ok (.iconst 1, 1) := by decide +kernel
theorem dX10_draws_15 : decode cX10_draws 15 = .ok (.iadd, 1) := by decide +kernel
theorem dX10_draws_16 : decode cX10_draws 16 = .ok (.istore 6, 2) := by decide +kernel
theorem dX10_draws_18 : decode cX10_draws 18 = .ok (.iload 6, 2) := by decide +kernel
theorem dX10_draws_20 : decode cX10_draws 20 = .ok (.iload_n 2, 1) := by decide +kernel
theorem dX10_draws_21 : decode cX10_draws 21 = .ok (.if_icmp .ge 84, 3) := by decide +kernel
theorem dX10_draws_24 : decode cX10_draws 24 = .ok (.iload 6, 2) := by decide +kernel
theorem dX10_draws_26 : decode cX10_draws 26 = .ok (.iconst 1, 1) := by decide +kernel
theorem dX10_draws_27 : decode cX10_draws 27 = .ok (.iadd, 1) := by decide +kernel
theorem dX10_draws_28 : decode cX10_draws 28 = .ok (.istore 7, 2) := by decide +kernel
theorem dX10_draws_30 : decode cX10_draws 30 = .ok (.iload 7, 2) := by decide +kernel
theorem dX10_draws_32 : decode cX10_draws 32 = .ok (.iload_n 2, 1) := by decide +kernel
theorem dX10_draws_33 : decode cX10_draws 33 = .ok (.if_icmp .ge 66, 3) := by decide +kernel
theorem dX10_draws_36 : decode cX10_draws 36 = .ok (.iload 4, 2) := by decide +kernel
theorem dX10_draws_38 : decode cX10_draws 38 = .ok (.ifCond .ne 52, 3) := by decide +kernel
theorem dX10_draws_41 : decode cX10_draws 41 = .ok (.aload_n 0, 1) := by decide +kernel
theorem dX10_draws_42 : decode cX10_draws 42 = .ok (.getfield 126, 3) := by decide +kernel
theorem dX10_draws_45 : decode cX10_draws 45 = .ok (.iconst 3, 1) := by decide +kernel
theorem dX10_draws_46 : decode cX10_draws 46 = .ok (.iload_n 1, 1) := by decide +kernel
theorem dX10_draws_47 : decode cX10_draws 47 = .ok (.imul, 1) := by decide +kernel
theorem dX10_draws_48 : decode cX10_draws 48 = .ok (.aload_n 0, 1) := by decide +kernel
theorem dX10_draws_49 : decode cX10_draws 49 = .ok (.getfield 159, 3) := by decide +kernel
theorem dX10_draws_52 : decode cX10_draws 52 = .ok (.iload 5, 2) := by decide +kernel
theorem dX10_draws_54 : decode cX10_draws 54 = .ok (.iaload, 1) := by decide +kernel
theorem dX10_draws_55 : decode cX10_draws 55 = .ok (.iastore, 1) := by decide +kernel
theorem dX10_draws_56 : decode cX10_draws 56 = .ok (.aload_n 0, 1) := by decide +kernel
theorem dX10_draws_57 : decode cX10_draws 57 = .ok (.getfield 126, 3) := by decide +kernel
theorem dX10_draws_60 : decode cX10_draws 60 = .ok (.iconst 3, 1) := by decide +kernel
theorem dX10_draws_61 : decode cX10_draws 61 = .ok (.iload_n 1, 1) := by decide +kernel
theorem dX10_draws_62 : decode cX10_draws 62 = .ok (.imul, 1) := by decide +kernel
theorem dX10_draws_63 : decode cX10_draws 63 = .ok (.iconst 1, 1) := by decide +kernel
theorem dX10_draws_64 : decode cX10_draws 64 = .ok (.iadd, 1) := by decide +kernel
theorem dX10_draws_65 : decode cX10_draws 65 = .ok (.aload_n 0, 1) := by decide +kernel
theorem dX10_draws_66 : decode cX10_draws 66 = .ok (.getfield 159, 3) := by decide +kernel
theorem dX10_draws_69 : decode cX10_draws 69 = .ok (.iload 6, 2) := by decide +kernel
theorem dX10_draws_71 : decode cX10_draws 71 = .ok (.iaload, 1) := by decide +kernel
theorem dX10_draws_72 : decode cX10_draws 72 = .ok (.iastore, 1) := by decide +kernel
theorem dX10_draws_73 : decode cX10_draws 73 = .ok (.aload_n 0, 1) := by decide +kernel
theorem dX10_draws_74 : decode cX10_draws 74 = .ok (.getfield 126, 3) := by decide +kernel
theorem dX10_draws_77 : decode cX10_draws 77 = .ok (.iconst 3, 1) := by decide +kernel
theorem dX10_draws_78 : decode cX10_draws 78 = .ok (.iload_n 1, 1) := by decide +kernel
theorem dX10_draws_79 : decode cX10_draws 79 = .ok (.imul, 1) := by decide +kernel
theorem dX10_draws_80 : decode cX10_draws 80 = .ok (.iconst 2, 1) := by decide +kernel
theorem dX10_draws_81 : decode cX10_draws 81 = .ok (.iadd, 1) := by decide +kernel
theorem dX10_draws_82 : decode cX10_draws 82 = .ok (.aload_n 0, 1) := by decide +kernel
theorem dX10_draws_83 : decode cX10_draws 83 = .ok (.getfield 159, 3) := by decide +kernel
theorem dX10_draws_86 : decode cX10_draws 86 = .ok (.iload 7, 2) := by decide +kernel
theorem dX10_draws_88 : decode cX10_draws 88 = .ok (.iaload, 1) := by decide +kernel
theorem dX10_draws_89 : decode cX10_draws 89 = .ok (.iastore, 1) := by decide +kernel
theorem dX10_draws_90 : decode cX10_draws 90 = .ok (.iinc 4 (-1), 3) := by decide +kernel
theorem dX10_draws_93 : decode cX10_draws 93 = .ok (.iinc 7 1, 3) := by decide +kernel
theorem dX10_draws_96 : decode cX10_draws 96 = .ok (.goto (-66), 3) := by decide +kernel
theorem dX10_draws_99 : decode cX10_draws 99 = .ok (.iinc 6 1, 3) := by decide +kernel
theorem dX10_draws_102 : decode cX10_draws 102 = .ok (.goto (-84), 3) := by decide +kernel
theorem dX10_draws_105 : decode cX10_draws 105 = .ok (.iinc 5 1, 3) := by decide +kernel
theorem dX10_draws_108 : decode cX10_draws 108 = .ok (.goto (-102), 3) := by decide +kernel
theorem dX10_draws_111 : decode cX10_draws 111 = .ok (.return_, 1) := by decide +kernel
theorem dX10_hear_0 : decode cX10_hear 0 = .ok (.aload_n 0, 1) := by decide +kernel
theorem dX10_hear_1 : decode cX10_hear 1 = .ok (.iload_n 1, 1) := by decide +kernel
theorem dX10_hear_2 : decode cX10_hear 2 = .ok (.invokevirtual 370, 3) := by decide +kernel
theorem dX10_hear_5 : decode cX10_hear 5 = .ok (.ifCond .eq 42, 3) := by decide +kernel
theorem dX10_hear_8 : decode cX10_hear 8 = .ok (.aload_n 0, 1) := by decide +kernel
theorem dX10_hear_9 : decode cX10_hear 9 = .ok (.getfield 108, 3) := by decide +kernel
theorem dX10_hear_12 : decode cX10_hear 12 = .ok (.iload_n 1, 1) := by decide +kernel
theorem dX10_hear_13 : decode cX10_hear 13 = .ok (.iaload, 1) := by decide +kernel
theorem dX10_hear_14 : decode cX10_hear 14 = .ok (.iconst (-1), 1) := by decide +kernel
theorem dX10_hear_15 : decode cX10_hear 15 = .ok (.if_icmp .eq 32, 3) := by decide +kernel
theorem dX10_hear_18 : decode cX10_hear 18 = .ok (.aload_n 0, 1) := by decide +kernel
theorem dX10_hear_19 : decode cX10_hear 19 = .ok (.getfield 111, 3) := by decide +kernel
theorem dX10_hear_22 : decode cX10_hear 22 = .ok (.iload_n 1, 1) := by decide +kernel
theorem dX10_hear_23 : decode cX10_hear 23 = .ok (.iaload, 1) := by decide +kernel
theorem dX10_hear_24 : decode cX10_hear 24 = .ok (.iconst (-1), 1) := by decide +kernel
theorem dX10_hear_25 : decode cX10_hear 25 = .ok (.if_icmp .ne 22, 3) := by decide +kernel
theorem dX10_hear_28 : decode cX10_hear 28 = .ok (.aload_n 0, 1) := by decide +kernel
theorem dX10_hear_29 : decode cX10_hear 29 = .ok (.getfield 56, 3) := by decide +kernel
theorem dX10_hear_32 : decode cX10_hear 32 = .ok (.aload_n 0, 1) := by decide +kernel
theorem dX10_hear_33 : decode cX10_hear 33 = .ok (.getfield 84, 3) := by decide +kernel
theorem dX10_hear_36 : decode cX10_hear 36 = .ok (.iload_n 1, 1) := by decide +kernel
theorem dX10_hear_37 : decode cX10_hear 37 = .ok (.iaload, 1) := by decide +kernel
theorem dX10_hear_38 : decode cX10_hear 38 = .ok (.baload, 1) := by decide +kernel
theorem dX10_hear_39 : decode cX10_hear 39 = .ok (.ifCond .ne 8, 3) := by decide +kernel
theorem dX10_hear_42 : decode cX10_hear 42 = .ok (.iload 4, 2) := by decide +kernel
theorem dX10_hear_44 : decode cX10_hear 44 = .ok (.ifCond .ge 5, 3) := by decide +kernel
theorem dX10_hear_47 : decode cX10_hear 47 = .ok (.iconst (-1), 1) := by decide +kernel
theorem dX10_hear_48 : decode cX10_hear 48 = .ok (.ireturn, 1) := by decide +kernel
theorem dX10_hear_49 : decode cX10_hear 49 = .ok (.aload_n 0, 1) := by decide +kernel
theorem dX10_hear_50 : decode cX10_hear 50 = .ok (.iload_n 1, 1) := by decide +kernel
theorem dX10_hear_51 : decode cX10_hear 51 = .ok (.invokevirtual 385, 3) := by decide +kernel
theorem dX10_hear_54 : decode cX10_hear 54 = .ok (.istore 5, 2) := by decide +kernel
theorem dX10_hear_56 : decode cX10_hear 56 = .ok (.iload 5, 2) := by decide +kernel
theorem dX10_hear_58 : decode cX10_hear 58 = .ok (.iconst 3, 1) := by decide +kernel
theorem dX10_hear_59 : decode cX10_hear 59 = .ok (.if_icmp .ge 5, 3) := by decide +kernel
theorem dX10_hear_62 : decode cX10_hear 62 = .ok (.iconst (-1), 1) := by decide +kernel
theorem dX10_hear_63 : decode cX10_hear 63 = .ok (.ireturn, 1) := by decide +kernel
theorem dX10_hear_64 : decode cX10_hear 64 = .ok (.aload_n 0, 1) := by decide +kernel
theorem dX10_hear_65 : decode cX10_hear 65 = .ok (.iload_n 1, 1) := by decide +kernel
theorem dX10_hear_66 : decode cX10_hear 66 = .ok (.iload 5, 2) := by decide +kernel
theorem dX10_hear_68 : decode cX10_hear 68 = .ok (.iload 4, 2) := by decide +kernel
theorem dX10_hear_70 : decode cX10_hear 70 = .ok (.iload 5, 2) := by decide +kernel
theorem dX10_hear_72 : decode cX10_hear 72 = .ok (.iload 5, 2) := by decide +kernel
theorem dX10_hear_74 : decode cX10_hear 74 = .ok (.iconst 1, 1) := by decide +kernel
theorem dX10_hear_75 : decode cX10_hear 75 = .ok (.isub, 1) := by decide +kernel
theorem dX10_hear_76 : decode cX10_hear 76 = .ok (.imul, 1) := by decide +kernel
theorem dX10_hear_77 : decode cX10_hear 77 = .ok (.iload 5, 2) := by decide +kernel
theorem dX10_hear_79 : decode cX10_hear 79 = .ok (.iconst 2, 1) := by decide +kernel
theorem dX10_hear_80 : decode cX10_hear 80 = .ok (.isub, 1) := by decide +kernel
theorem dX10_hear_81 : decode cX10_hear 81 = .ok (.imul, 1) := by decide +kernel
theorem dX10_hear_82 : decode cX10_hear 82 = .ok (.bipush 6, 2) := by decide +kernel
theorem dX10_hear_84 : decode cX10_hear 84 = .ok (.idiv, 1) := by decide +kernel
theorem dX10_hear_85 : decode cX10_hear 85 = .ok (.irem, 1) := by decide +kernel
theorem dX10_hear_86 : decode cX10_hear 86 = .ok (.invokevirtual 388, 3) := by decide +kernel
theorem dX10_hear_89 : decode cX10_hear 89 = .ok (.aload_n 0, 1) := by decide +kernel
theorem dX10_hear_90 : decode cX10_hear 90 = .ok (.getfield 111, 3) := by decide +kernel
theorem dX10_hear_93 : decode cX10_hear 93 = .ok (.iload_n 1, 1) := by decide +kernel
theorem dX10_hear_94 : decode cX10_hear 94 = .ok (.aload_n 0, 1) := by decide +kernel
theorem dX10_hear_95 : decode cX10_hear 95 = .ok (.getfield 232, 3) := by decide +kernel
theorem dX10_hear_98 : decode cX10_hear 98 = .ok (.iastore, 1) := by decide +kernel
theorem dX10_hear_99 : decode cX10_hear 99 = .ok (.aload_n 0, 1) := by decide +kernel
theorem dX10_hear_100 : decode cX10_hear 100 = .ok (.getfield 141, 3) := by decide +kernel
theorem dX10_hear_103 : decode cX10_hear 103 = .ok (.aload_n 0, 1) := by decide +kernel
theorem dX10_hear_104 : decode cX10_hear 104 = .ok (.getfield 392, 3) := by decide +kernel
theorem dX10_hear_107 : decode cX10_hear 107 = .ok (.iload_n 1, 1) := by decide +kernel
theorem dX10_hear_108 : decode cX10_hear 108 = .ok (.iastore, 1) := by decide +kernel
theorem dX10_hear_109 : decode cX10_hear 109 = .ok (.aload_n 0, 1) := by decide +kernel
theorem dX10_hear_110 : decode cX10_hear 110 = .ok (.dup, 1) := by decide +kernel
theorem dX10_hear_111 : decode cX10_hear 111 = .ok (.getfield 392, 3) := by decide +kernel
theorem dX10_hear_114 : decode cX10_hear 114 = .ok (.iconst 1, 1) := by decide +kernel
theorem dX10_hear_115 : decode cX10_hear 115 = .ok (.iadd, 1) := by decide +kernel
theorem dX10_hear_116 : decode cX10_hear 116 = .ok (.putfield 392, 3) := by decide +kernel
theorem dX10_hear_119 : decode cX10_hear 119 = .ok (.aload_n 0, 1) := by decide +kernel
theorem dX10_hear_120 : decode cX10_hear 120 = .ok (.getfield 129, 3) := by decide +kernel
theorem dX10_hear_123 : decode cX10_hear 123 = .ok (.bipush 8, 2) := by decide +kernel
theorem dX10_hear_125 : decode cX10_hear 125 = .ok (.iload_n 1, 1) := by decide +kernel
theorem dX10_hear_126 : decode cX10_hear 126 = .ok (.imul, 1) := by decide +kernel
theorem dX10_hear_127 : decode cX10_hear 127 = .ok (.iload_n 2, 1) := by decide +kernel
theorem dX10_hear_128 : decode cX10_hear 128 = .ok (.ifCond .eq 7, 3) := by decide +kernel
theorem dX10_hear_131 : decode cX10_hear 131 = .ok (.iconst 1, 1) := by decide +kernel
theorem dX10_hear_132 : decode cX10_hear 132 = .ok (.goto 4, 3) := by decide +kernel
theorem dX10_hear_135 : decode cX10_hear 135 = .ok (.iconst 0, 1) := by decide +kernel
theorem dX10_hear_136 : decode cX10_hear 136 = .ok (.iastore, 1) := by decide +kernel
theorem dX10_hear_137 : decode cX10_hear 137 = .ok (.aload_n 0, 1) := by decide +kernel
theorem dX10_hear_138 : decode cX10_hear 138 = .ok (.getfield 129, 3) := by decide +kernel
theorem dX10_hear_141 : decode cX10_hear 141 = .ok (.bipush 8, 2) := by decide +kernel
theorem dX10_hear_143 : decode cX10_hear 143 = .ok (.iload_n 1, 1) := by decide +kernel
theorem dX10_hear_144 : decode cX10_hear 144 = .ok (.imul, 1) := by decide +kernel
theorem dX10_hear_145 : decode cX10_hear 145 = .ok (.iconst 1, 1) := by decide +kernel
theorem dX10_hear_146 : decode cX10_hear 146 = .ok (.iadd, 1) := by decide +kernel
theorem dX10_hear_147 : decode cX10_hear 147 = .ok (.iload_n 3, 1) := by decide +kernel
theorem dX10_hear_148 : decode cX10_hear 148 = .ok (.ifCond .eq 7, 3) := by decide +kernel
theorem dX10_hear_151 : decode cX10_hear 151 = .ok (.iconst 1, 1) := by decide +kernel
theorem dX10_hear_152 : decode cX10_hear 152 = .ok (.goto 4, 3) := by decide +kernel
theorem dX10_hear_155 : decode cX10_hear 155 = .ok (.iconst 0, 1) := by decide +kernel
theorem dX10_hear_156 : decode cX10_hear 156 = .ok (.iastore, 1) := by decide +kernel
theorem dX10_hear_157 : decode cX10_hear 157 = .ok (.aload_n 0, 1) := by decide +kernel
theorem dX10_hear_158 : decode cX10_hear 158 = .ok (.getfield 129, 3) := by decide +kernel
theorem dX10_hear_161 : decode cX10_hear 161 = .ok (.bipush 8, 2) := by decide +kernel
theorem dX10_hear_163 : decode cX10_hear 163 = .ok (.iload_n 1, 1) := by decide +kernel
theorem dX10_hear_164 : decode cX10_hear 164 = .ok (.imul, 1) := by decide +kernel
theorem dX10_hear_165 : decode cX10_hear 165 = .ok (.iconst 2, 1) := by decide +kernel
theorem dX10_hear_166 : decode cX10_hear 166 = .ok (.iadd, 1) := by decide +kernel
theorem dX10_hear_167 : decode cX10_hear 167 = .ok (.aload_n 0, 1) := by decide +kernel
theorem dX10_hear_168 : decode cX10_hear 168 = .ok (.getfield 93, 3) := by decide +kernel
theorem dX10_hear_171 : decode cX10_hear 171 = .ok (.iload_n 1, 1) := by decide +kernel
theorem dX10_hear_172 : decode cX10_hear 172 = .ok (.baload, 1) := by decide +kernel
theorem dX10_hear_173 : decode cX10_hear 173 = .ok (.ifCond .eq 7, 3) := by decide +kernel
theorem dX10_hear_176 : decode cX10_hear 176 = .ok (.iconst 1, 1) := by decide +kernel
theorem dX10_hear_177 : decode cX10_hear 177 = .ok (.goto 4, 3) := by decide +kernel
theorem dX10_hear_180 : decode cX10_hear 180 = .ok (.iconst 0, 1) := by decide +kernel
theorem dX10_hear_181 : decode cX10_hear 181 = .ok (.iastore, 1) := by decide +kernel
theorem dX10_hear_182 : decode cX10_hear 182 = .ok (.aload_n 0, 1) := by decide +kernel
theorem dX10_hear_183 : decode cX10_hear 183 = .ok (.getfield 129, 3) := by decide +kernel
theorem dX10_hear_186 : decode cX10_hear 186 = .ok (.bipush 8, 2) := by decide +kernel
theorem dX10_hear_188 : decode cX10_hear 188 = .ok (.iload_n 1, 1) := by decide +kernel
theorem dX10_hear_189 : decode cX10_hear 189 = .ok (.imul, 1) := by decide +kernel
theorem dX10_hear_190 : decode cX10_hear 190 = .ok (.iconst 3, 1) := by decide +kernel
theorem dX10_hear_191 : decode cX10_hear 191 = .ok (.iadd, 1) := by decide +kernel
theorem dX10_hear_192 : decode cX10_hear 192 = .ok (.aload_n 0, 1) := by decide +kernel
theorem dX10_hear_193 : decode cX10_hear 193 = .ok (.getfield 96, 3) := by decide +kernel
theorem dX10_hear_196 : decode cX10_hear 196 = .ok (.iload_n 1, 1) := by decide +kernel
theorem dX10_hear_197 : decode cX10_hear 197 = .ok (.iaload, 1) := by decide +kernel
theorem dX10_hear_198 : decode cX10_hear 198 = .ok (.iastore, 1) := by decide +kernel
theorem dX10_hear_199 : decode cX10_hear 199 = .ok (.aload_n 0, 1) := by decide +kernel
theorem dX10_hear_200 : decode cX10_hear 200 = .ok (.getfield 129, 3) := by decide +kernel
theorem dX10_hear_203 : decode cX10_hear 203 = .ok (.bipush 8, 2) := by decide +kernel
theorem dX10_hear_205 : decode cX10_hear 205 = .ok (.iload_n 1, 1) := by decide +kernel
theorem dX10_hear_206 : decode cX10_hear 206 = .ok (.imul, 1) := by decide +kernel
theorem dX10_hear_207 : decode cX10_hear 207 = .ok (.iconst 4, 1) := by decide +kernel
theorem dX10_hear_208 : decode cX10_hear 208 = .ok (.iadd, 1) := by decide +kernel
theorem dX10_hear_209 : decode cX10_hear 209 = .ok (.aload_n 0, 1) := by decide +kernel
theorem dX10_hear_210 : decode cX10_hear 210 = .ok (.aload_n 0, 1) := by decide +kernel
theorem dX10_hear_211 : decode cX10_hear 211 = .ok (.getfield 81, 3) := by decide +kernel
theorem dX10_hear_214 : decode cX10_hear 214 = .ok (.iload_n 1, 1) := by decide +kernel
theorem dX10_hear_215 : decode cX10_hear 215 = .ok (.iaload, 1) := by decide +kernel
theorem dX10_hear_216 : decode cX10_hear 216 = .ok (.aload_n 0, 1) := by decide +kernel
theorem dX10_hear_217 : decode cX10_hear 217 = .ok (.getfield 84, 3) := by decide +kernel
theorem dX10_hear_220 : decode cX10_hear 220 = .ok (.iload_n 1, 1) := by decide +kernel
theorem dX10_hear_221 : decode cX10_hear 221 = .ok (.iaload, 1) := by decide +kernel
theorem dX10_hear_222 : decode cX10_hear 222 = .ok (.aload_n 0, 1) := by decide +kernel
theorem dX10_hear_223 : decode cX10_hear 223 = .ok (.getfield 99, 3) := by decide +kernel
theorem dX10_hear_226 : decode cX10_hear 226 = .ok (.iload_n 1, 1) := by decide +kernel
theorem dX10_hear_227 : decode cX10_hear 227 = .ok (.iaload, 1) := by decide +kernel
theorem dX10_hear_228 : decode cX10_hear 228 = .ok (.invokevirtual 358, 3) := by decide +kernel
theorem dX10_hear_231 : decode cX10_hear 231 = .ok (.iastore, 1) := by decide +kernel
theorem dX10_hear_232 : decode cX10_hear 232 = .ok (.aload_n 0, 1) := by decide +kernel
theorem dX10_hear_233 : decode cX10_hear 233 = .ok (.getfield 129, 3) := by decide +kernel
theorem dX10_hear_236 : decode cX10_hear 236 = .ok (.bipush 8, 2) := by decide +kernel
theorem dX10_hear_238 : decode cX10_hear 238 = .ok (.iload_n 1, 1) := by decide +kernel
theorem dX10_hear_239 : decode cX10_hear 239 = .ok (.imul, 1) := by decide +kernel
theorem dX10_hear_240 : decode cX10_hear 240 = .ok (.iconst 5, 1) := by decide +kernel
theorem dX10_hear_241 : decode cX10_hear 241 = .ok (.iadd, 1) := by decide +kernel
theorem dX10_hear_242 : decode cX10_hear 242 = .ok (.aload_n 0, 1) := by decide +kernel
theorem dX10_hear_243 : decode cX10_hear 243 = .ok (.aload_n 0, 1) := by decide +kernel
theorem dX10_hear_244 : decode cX10_hear 244 = .ok (.getfield 84, 3) := by decide +kernel
theorem dX10_hear_247 : decode cX10_hear 247 = .ok (.iload_n 1, 1) := by decide +kernel
theorem dX10_hear_248 : decode cX10_hear 248 = .ok (.iaload, 1) := by decide +kernel
theorem dX10_hear_249 : decode cX10_hear 249 = .ok (.aload_n 0, 1) := by decide +kernel
theorem dX10_hear_250 : decode cX10_hear 250 = .ok (.getfield 81, 3) := by decide +kernel
theorem dX10_hear_253 : decode cX10_hear 253 = .ok (.iload_n 1, 1) := by decide +kernel
theorem dX10_hear_254 : decode cX10_hear 254 = .ok (.iaload, 1) := by decide +kernel
theorem dX10_hear_255 : decode cX10_hear 255 = .ok (.aload_n 0, 1) := by decide +kernel
theorem dX10_hear_256 : decode cX10_hear 256 = .ok (.getfield 99, 3) := by decide +kernel
theorem dX10_hear_259 : decode cX10_hear 259 = .ok (.iload_n 1, 1) := by decide +kernel
theorem dX10_hear_260 : decode cX10_hear 260 = .ok (.iaload, 1) := by decide +kernel
theorem dX10_hear_261 : decode cX10_hear 261 = .ok (.invokevirtual 358, 3) := by decide +kernel
theorem dX10_hear_264 : decode cX10_hear 264 = .ok (.ineg, 1) := by decide +kernel
theorem dX10_hear_265 : decode cX10_hear 265 = .ok (.iastore, 1) := by decide +kernel
theorem dX10_hear_266 : decode cX10_hear 266 = .ok (.aload_n 0, 1) := by decide +kernel
theorem dX10_hear_267 : decode cX10_hear 267 = .ok (.getfield 129, 3) := by decide +kernel
theorem dX10_hear_270 : decode cX10_hear 270 = .ok (.bipush 8, 2) := by decide +kernel
theorem dX10_hear_272 : decode cX10_hear 272 = .ok (.iload_n 1, 1) := by decide +kernel
theorem dX10_hear_273 : decode cX10_hear 273 = .ok (.imul, 1) := by decide +kernel
theorem dX10_hear_274 : decode cX10_hear 274 = .ok (.bipush 6, 2) := by decide +kernel
theorem dX10_hear_276 : decode cX10_hear 276 = .ok (.iadd, 1) := by decide +kernel
theorem dX10_hear_277 : decode cX10_hear 277 = .ok (.aload_n 0, 1) := by decide +kernel
theorem dX10_hear_278 : decode cX10_hear 278 = .ok (.aload_n 0, 1) := by decide +kernel
theorem dX10_hear_279 : decode cX10_hear 279 = .ok (.getfield 81, 3) := by decide +kernel
theorem dX10_hear_282 : decode cX10_hear 282 = .ok (.iload_n 1, 1) := by decide +kernel
theorem dX10_hear_283 : decode cX10_hear 283 = .ok (.iaload, 1) := by decide +kernel
theorem dX10_hear_284 : decode cX10_hear 284 = .ok (.aload_n 0, 1) := by decide +kernel
theorem dX10_hear_285 : decode cX10_hear 285 = .ok (.getfield 84, 3) := by decide +kernel
theorem dX10_hear_288 : decode cX10_hear 288 = .ok (.iload_n 1, 1) := by decide +kernel
theorem dX10_hear_289 : decode cX10_hear 289 = .ok (.iaload, 1) := by decide +kernel
theorem dX10_hear_290 : decode cX10_hear 290 = .ok (.aload_n 0, 1) := by decide +kernel
theorem dX10_hear_291 : decode cX10_hear 291 = .ok (.getfield 99, 3) := by decide +kernel
theorem dX10_hear_294 : decode cX10_hear 294 = .ok (.iload_n 1, 1) := by decide +kernel
theorem dX10_hear_295 : decode cX10_hear 295 = .ok (.iaload, 1) := by decide +kernel
theorem dX10_hear_296 : decode cX10_hear 296 = .ok (.invokevirtual 361, 3) := by decide +kernel
theorem dX10_hear_299 : decode cX10_hear 299 = .ok (.iastore, 1) := by decide +kernel
theorem dX10_hear_300 : decode cX10_hear 300 = .ok (.aload_n 0, 1) := by decide +kernel
theorem dX10_hear_301 : decode cX10_hear 301 = .ok (.getfield 129, 3) := by decide +kernel
theorem dX10_hear_304 : decode cX10_hear 304 = .ok (.bipush 8, 2) := by decide +kernel
theorem dX10_hear_306 : decode cX10_hear 306 = .ok (.iload_n 1, 1) := by decide +kernel
theorem dX10_hear_307 : decode cX10_hear 307 = .ok (.imul, 1) := by decide +kernel
theorem dX10_hear_308 : decode cX10_hear 308 = .ok (.bipush 7, 2) := by decide +kernel
theorem dX10_hear_310 : decode cX10_hear 310 = .ok (.iadd, 1) := by decide +kernel
theorem dX10_hear_311 : decode cX10_hear 311 = .ok (.aload_n 0, 1) := by decide +kernel
theorem dX10_hear_312 : decode cX10_hear 312 = .ok (.getfield 87, 3) := by decide +kernel
theorem dX10_hear_315 : decode cX10_hear 315 = .ok (.iload_n 1, 1) := by decide +kernel
theorem dX10_hear_316 : decode cX10_hear 316 = .ok (.iaload, 1) := by decide +kernel
theorem dX10_hear_317 : decode cX10_hear 317 = .ok (.iastore, 1) := by decide +kernel
theorem dX10_hear_318 : decode cX10_hear 318 = .ok (.aload_n 0, 1) := by decide +kernel
theorem dX10_hear_319 : decode cX10_hear 319 = .ok (.getfield 123, 3) := by decide +kernel
theorem dX10_hear_322 : decode cX10_hear 322 = .ok (.iload_n 1, 1) := by decide +kernel
theorem dX10_hear_323 : decode cX10_hear 323 = .ok (.aload_n 0, 1) := by decide +kernel
theorem dX10_hear_324 : decode cX10_hear 324 = .ok (.iload_n 1, 1) := by decide +kernel
theorem dX10_hear_325 : decode cX10_hear 325 = .ok (.aload_n 0, 1) := by decide +kernel
theorem dX10_hear_326 : decode cX10_hear 326 = .ok (.getfield 102, 3) := by decide +kernel
theorem dX10_hear_329 : decode cX10_hear 329 = .ok (.iload_n 1, 1) := by decide +kernel
theorem dX10_hear_330 : decode cX10_hear 330 = .ok (.iaload, 1) := by decide +kernel
theorem dX10_hear_331 : decode cX10_hear 331 = .ok (.invokevirtual 395, 3) := by decide +kernel
theorem dX10_hear_334 : decode cX10_hear 334 = .ok (.iastore, 1) := by decide +kernel
theorem dX10_hear_335 : decode cX10_hear 335 = .ok (.aload_n 0, 1) := by decide +kernel
theorem dX10_hear_336 : decode cX10_hear 336 = .ok (.getfield 123, 3) := by decide +kernel
theorem dX10_hear_339 : decode cX10_hear 339 = .ok (.iload_n 1, 1) := by decide +kernel
theorem dX10_hear_340 : decode cX10_hear 340 = .ok (.iaload, 1) := by decide +kernel
theorem dX10_hear_341 : decode cX10_hear 341 = .ok (.ireturn, 1) := by decide +kernel
theorem dX10_looks_0 : decode cX10_looks 0 = .ok (.aload_n 0, 1) := by decide +kernel
theorem dX10_looks_1 : decode cX10_looks 1 = .ok (.iconst 0, 1) := by decide +kernel
theorem dX10_looks_2 : decode cX10_looks 2 = .ok (.putfield 398, 3) := by decide +kernel
theorem dX10_looks_5 : decode cX10_looks 5 = .ok (.aload_n 0, 1) := by decide +kernel
theorem dX10_looks_6 : decode cX10_looks 6 = .ok (.iconst 0, 1) := by decide +kernel
theorem dX10_looks_7 : decode cX10_looks 7 = .ok (.putfield 401, 3) := by decide +kernel
theorem dX10_looks_10 : decode cX10_looks 10 = .ok (.aload_n 0, 1) := by decide +kernel
theorem dX10_looks_11 : decode cX10_looks 11 = .ok (.iconst 0, 1) := by decide +kernel
theorem dX10_looks_12 : decode cX10_looks 12 = .ok (.putfield 404, 3) := by decide +kernel
theorem dX10_looks_15 : decode cX10_looks 15 = .ok (.aload_n 0, 1) := by decide +kernel
theorem dX10_looks_16 : decode cX10_looks 16 = .ok (.iconst 0, 1) := by decide +kernel
theorem dX10_looks_17 : decode cX10_looks 17 = .ok (.putfield 407, 3) := by decide +kernel
theorem dX10_looks_20 : decode cX10_looks 20 = .ok (.aload_n 0, 1) := by decide +kernel
theorem dX10_looks_21 : decode cX10_looks 21 = .ok (.aload_n 0, 1) := by decide +kernel
theorem dX10_looks_22 : decode cX10_looks 22 = .ok (.getfield 108, 3) := by decide +kernel
theorem dX10_looks_25 : decode cX10_looks 25 = .ok (.iload_n 1, 1) := by decide +kernel
theorem dX10_looks_26 : decode cX10_looks 26 = .ok (.iaload, 1) := by decide +kernel
theorem dX10_looks_27 : decode cX10_looks 27 = .ok (.iconst (-1), 1) := by decide +kernel
theorem dX10_looks_28 : decode cX10_looks 28 = .ok (.if_icmp .eq 17, 3) := by decide +kernel
theorem dX10_looks_31 : decode cX10_looks 31 = .ok (.aload_n 0, 1) := by decide +kernel
theorem dX10_looks_32 : decode cX10_looks 32 = .ok (.getfield 108, 3) := by decide +kernel
theorem dX10_looks_35 : decode cX10_looks 35 = .ok (.iload_n 1, 1) := by decide +kernel
theorem dX10_looks_36 : decode cX10_looks 36 = .ok (.iaload, 1) := by decide +kernel
theorem dX10_looks_37 : decode cX10_looks 37 = .ok (.iload_n 2, 1) := by decide +kernel
theorem dX10_looks_38 : decode cX10_looks 38 = .ok (.if_icmp .gt 7, 3) := by decide +kernel
theorem dX10_looks_41 : decode cX10_looks 41 = .ok (.iconst 1, 1) := by decide +kernel
theorem dX10_looks_42 : decode cX10_looks 42 = .ok (.goto 4, 3) := by decide +kernel
theorem dX10_looks_45 : decode cX10_looks 45 = .ok (.iconst 0, 1) := by decide +kernel
theorem dX10_looks_46 : decode cX10_looks 46 = .ok (.putfield 410, 3) := by decide +kernel
theorem dX10_looks_49 : decode cX10_looks 49 = .ok (.aload_n 0, 1) := by decide +kernel
theorem dX10_looks_50 : decode cX10_looks 50 = .ok (.getfield 111, 3) := by decide +kernel
theorem dX10_looks_53 : decode cX10_looks 53 = .ok (.iload_n 1, 1) := by decide +kernel
theorem dX10_looks_54 : decode cX10_looks 54 = .ok (.iaload, 1) := by decide +kernel
theorem dX10_looks_55 : decode cX10_looks 55 = .ok (.iconst (-1), 1) := by decide +kernel
theorem dX10_looks_56 : decode cX10_looks 56 = .ok (.if_icmp .eq 32, 3) := by decide +kernel
theorem dX10_looks_59 : decode cX10_looks 59 = .ok (.aload_n 0, 1) := by decide +kernel
theorem dX10_looks_60 : decode cX10_looks 60 = .ok (.getfield 111, 3) := by decide +kernel
theorem dX10_looks_63 : decode cX10_looks 63 = .ok (.iload_n 1, 1) := by decide +kernel
theorem dX10_looks_64 : decode cX10_looks 64 = .ok (.iaload, 1) := by decide +kernel
theorem dX10_looks_65 : decode cX10_looks 65 = .ok (.iload_n 2, 1) := by decide +kernel
theorem dX10_looks_66 : decode cX10_looks 66 = .ok (.if_icmp .gt 22, 3) := by decide +kernel
theorem dX10_looks_69 : decode cX10_looks 69 = .ok (.aload_n 0, 1) := by decide +kernel
theorem dX10_looks_70 : decode cX10_looks 70 = .ok (.aload_n 0, 1) := by decide +kernel
theorem dX10_looks_71 : decode cX10_looks 71 = .ok (.getfield 123, 3) := by decide +kernel
theorem dX10_looks_74 : decode cX10_looks 74 = .ok (.iload_n 1, 1) := by decide +kernel
theorem dX10_looks_75 : decode cX10_looks 75 = .ok (.iaload, 1) := by decide +kernel
theorem dX10_looks_76 : decode cX10_looks 76 = .ok (.iconst 5, 1) := by decide +kernel
theorem dX10_looks_77 : decode cX10_looks 77 = .ok (.if_icmp .ne 7, 3) := by decide +kernel
theorem dX10_looks_80 : decode cX10_looks 80 = .ok (.iconst 3, 1) := by decide +kernel
theorem dX10_looks_81 : decode cX10_looks 81 = .ok (.goto 4, 3) := by decide +kernel
theorem dX10_looks_84 : decode cX10_looks 84 = .ok (.iconst 2, 1) := by decide +kernel
theorem dX10_looks_85 : decode cX10_looks 85 = .ok (.putfield 410, 3) := by decide +kernel
theorem dX10_looks_88 : decode cX10_looks 88 = .ok (.aload_n 0, 1) := by decide +kernel
theorem dX10_looks_89 : decode cX10_looks 89 = .ok (.getfield 114, 3) := by decide +kernel
theorem dX10_looks_92 : decode cX10_looks 92 = .ok (.iload_n 1, 1) := by decide +kernel
theorem dX10_looks_93 : decode cX10_looks 93 = .ok (.iaload, 1) := by decide +kernel
theorem dX10_looks_94 : decode cX10_looks 94 = .ok (.iconst (-1), 1) := by decide +kernel
theorem dX10_looks_95 : decode cX10_looks 95 = .ok (.if_icmp .eq 13, 3) := by decide +kernel
theorem dX10_looks_98 : decode cX10_looks 98 = .ok (.aload_n 0, 1) := by decide +kernel
theorem dX10_looks_99 : decode cX10_looks 99 = .ok (.getfield 114, 3) := by decide +kernel
theorem dX10_looks_102 : decode cX10_looks 102 = .ok (.iload_n 1, 1) := by decide +kernel
theorem dX10_looks_103 : decode cX10_looks 103 = .ok (.iaload, 1) := by decide +kernel
theorem dX10_looks_104 : decode cX10_looks 104 = .ok (.iload_n 2, 1) := by decide +kernel
theorem dX10_looks_105 : decode cX10_looks 105 = .ok (.if_icmp .le 4, 3) := by decide +kernel
theorem dX10_looks_108 : decode cX10_looks 108 = .ok (.return_, 1) := by decide +kernel
theorem dX10_looks_109 : decode cX10_looks 109 = .ok (.aload_n 0, 1) := by decide +kernel
theorem dX10_looks_110 : decode cX10_looks 110 = .ok (.getfield 117, 3) := by decide +kernel
theorem dX10_looks_113 : decode cX10_looks 113 = .ok (.iload_n 1, 1) := by decide +kernel
theorem dX10_looks_114 : decode cX10_looks 114 = .ok (.iaload, 1) := by decide +kernel
theorem dX10_looks_115 : decode cX10_looks 115 = .ok (.iconst (-1), 1) := by decide +kernel
theorem dX10_looks_116 : decode cX10_looks 116 = .ok (.if_icmp .eq 17, 3) := by decide +kernel
theorem dX10_looks_119 : decode cX10_looks 119 = .ok (.aload_n 0, 1) := by decide +kernel
theorem dX10_looks_120 : decode cX10_looks 120 = .ok (.getfield 117, 3) := by decide +kernel
theorem dX10_looks_123 : decode cX10_looks 123 = .ok (.iload_n 1, 1) := by decide +kernel
theorem dX10_looks_124 : decode cX10_looks 124 = .ok (.iaload, 1) := by decide +kernel
theorem dX10_looks_125 : decode cX10_looks 125 = .ok (.iload_n 2, 1) := by decide +kernel
theorem dX10_looks_126 : decode cX10_looks 126 = .ok (.if_icmp .gt 7, 3) := by decide +kernel
theorem dX10_looks_129 : decode cX10_looks 129 = .ok (.iconst 1, 1) := by decide +kernel
theorem dX10_looks_130 : decode cX10_looks 130 = .ok (.goto 4, 3) := by decide +kernel
theorem dX10_looks_133 : decode cX10_looks 133 = .ok (.iconst 0, 1) := by decide +kernel
theorem dX10_looks_134 : decode cX10_looks 134 = .ok (.istore 4, 2) := by decide +kernel
theorem dX10_looks_136 : decode cX10_looks 136 = .ok (.iconst 0, 1) := by decide +kernel
theorem dX10_looks_137 : decode cX10_looks 137 = .ok (.istore 5, 2) := by decide +kernel
theorem dX10_looks_139 : decode cX10_looks 139 = .ok (.iload 5, 2) := by decide +kernel
theorem dX10_looks_141 : decode cX10_looks 141 = .ok (.aload_n 0, 1) := by decide +kernel
theorem dX10_looks_142 : decode cX10_looks 142 = .ok (.getfield 413, 3) := by decide +kernel
theorem dX10_looks_145 : decode cX10_looks 145 = .ok (.if_icmp .ge 80, 3) := by decide +kernel
theorem dX10_looks_148 : decode cX10_looks 148 = .ok (.aload_n 0, 1) := by decide +kernel
theorem dX10_looks_149 : decode cX10_looks 149 = .ok (.getfield 144, 3) := by decide +kernel
theorem dX10_looks_152 : decode cX10_looks 152 = .ok (.iload 5, 2) := by decide +kernel
theorem dX10_looks_154 : decode cX10_looks 154 = .ok (.iaload, 1) := by decide +kernel
theorem dX10_looks_155 : decode cX10_looks 155 = .ok (.iload_n 1, 1) := by decide +kernel
theorem dX10_looks_156 : decode cX10_looks 156 = .ok (.if_icmp .ne 63, 3) := by decide +kernel
theorem dX10_looks_159 : decode cX10_looks 159 = .ok (.aload_n 0, 1) := by decide +kernel
theorem dX10_looks_160 : decode cX10_looks 160 = .ok (.getfield 147, 3) := by decide +kernel
theorem dX10_looks_163 : decode cX10_looks 163 = .ok (.iload 5, 2) := by decide +kernel
theorem dX10_looks_165 : decode cX10_looks 165 = .ok (.iaload, 1) := by decide +kernel
theorem dX10_looks_166 : decode cX10_looks 166 = .ok (.iload_n 2, 1) := by decide +kernel
theorem dX10_looks_167 : decode cX10_looks 167 = .ok (.if_icmp .gt 52, 3) := by decide +kernel
theorem dX10_looks_170 : decode cX10_looks 170 = .ok (.aload_n 0, 1) := by decide +kernel
theorem dX10_looks_171 : decode cX10_looks 171 = .ok (.getfield 153, 3) := by decide +kernel
theorem dX10_looks_174 : decode cX10_looks 174 = .ok (.iload 5, 2) := by decide +kernel
theorem dX10_looks_176 : decode cX10_looks 176 = .ok (.iaload, 1) := by decide +kernel
theorem dX10_looks_177 : decode cX10_looks 177 = .ok (.iload_n 3, 1) := by decide +kernel
theorem dX10_looks_178 : decode cX10_looks 178 = .ok (.if_icmp .gt 41, 3) := by decide +kernel
theorem dX10_looks_181 : decode cX10_looks 181 = .ok (.aload_n 0, 1) := by decide +kernel
theorem dX10_looks_182 : decode cX10_looks 182 = .ok (.getfield 156, 3) := by decide +kernel
theorem dX10_looks_185 : decode cX10_looks 185 = .ok (.iload 5, 2) := by decide +kernel
theorem dX10_looks_187 : decode cX10_looks 187 = .ok (.iaload, 1) := by decide +kernel
theorem dX10_looks_188 : decode cX10_looks 188 = .ok (.iconst (-1), 1) := by decide +kernel
theorem dX10_looks_189 : decode cX10_looks 189 = .ok (.if_icmp .eq 14, 3) := by decide +kernel
theorem dX10_looks_192 : decode cX10_looks 192 = .ok (.aload_n 0, 1) := by decide +kernel
theorem dX10_looks_193 : decode cX10_looks 193 = .ok (.getfield 156, 3) := by decide +kernel
theorem dX10_looks_196 : decode cX10_looks 196 = .ok (.iload 5, 2) := by decide +kernel
theorem dX10_looks_198 : decode cX10_looks 198 = .ok (.iaload, 1) := by decide +kernel
theorem dX10_looks_199 : decode cX10_looks 199 = .ok (.iload_n 3, 1) := by decide +kernel
theorem dX10_looks_200 : decode cX10_looks 200 = .ok (.if_icmp .le 19, 3) := by decide +kernel
theorem dX10_looks_203 : decode cX10_looks 203 = .ok (.aload_n 0, 1) := by decide +kernel
theorem dX10_looks_204 : decode cX10_looks 204 = .ok (.dup, 1) := by decide +kernel
theorem dX10_looks_205 : decode cX10_looks 205 = .ok (.getfield 398, 3) := by decide +kernel
theorem dX10_looks_208 : decode cX10_looks 208 = .ok (.aload_n 0, 1) := by decide +kernel
theorem dX10_looks_209 : decode cX10_looks 209 = .ok (.getfield 150, 3) := by decide +kernel
theorem dX10_looks_212 : decode cX10_looks 212 = .ok (.iload 5, 2) := by decide +kernel
theorem dX10_looks_214 : decode cX10_looks 214 = .ok (.iaload, 1) := by decide +kernel
theorem dX10_looks_215 : decode cX10_looks 215 = .ok (.iadd, 1) := by decide +kernel
theorem dX10_looks_216 : decode cX10_looks 216 = .ok (.putfield 398, 3) := by decide +kernel
theorem dX10_looks_219 : decode cX10_looks 219 = .ok (.iinc 5 1, 3) := by decide +kernel
theorem dX10_looks_222 : decode cX10_looks 222 = .ok (.goto (-83), 3) := by decide +kernel
theorem dX10_looks_225 : decode cX10_looks 225 = .ok (.aload_n 0, 1) := by decide +kernel
theorem dX10_looks_226 : decode cX10_looks 226 = .ok (.dup, 1) := by decide +kernel
theorem dX10_looks_227 : decode cX10_looks 227 = .ok (.getfield 398, 3) := by decide +kernel
theorem dX10_looks_230 : decode cX10_looks 230 = .ok (.iload 4, 2) := by decide +kernel
theorem dX10_looks_232 : decode cX10_looks 232 = .ok (.ifCond .eq 12, 3) := by decide +kernel
theorem dX10_looks_235 : decode cX10_looks 235 = .ok (.aload_n 0, 1) := by decide +kernel
theorem dX10_looks_236 : decode cX10_looks 236 = .ok (.getfield 138, 3) := by decide +kernel
theorem dX10_looks_239 : decode cX10_looks 239 = .ok (.iload_n 1, 1) := by decide +kernel
theorem dX10_looks_240 : decode cX10_looks 240 = .ok (.iaload, 1) := by decide +kernel
theorem dX10_looks_241 : decode cX10_looks 241 = .ok (.goto 4, 3) := by decide +kernel
theorem dX10_looks_244 : decode cX10_looks 244 = .ok (.iconst 0, 1) := by decide +kernel
theorem dX10_looks_245 : decode cX10_looks 245 = .ok (.iadd, 1) := by decide +kernel
theorem dX10_looks_246 : decode cX10_looks 246 = .ok (.putfield 398, 3) := by decide +kernel
theorem dX10_looks_249 : decode cX10_looks 249 = .ok (.aload_n 0, 1) := by decide +kernel
theorem dX10_looks_250 : decode cX10_looks 250 = .ok (.getfield 135, 3) := by decide +kernel
theorem dX10_looks_253 : decode cX10_looks 253 = .ok (.iload_n 1, 1) := by decide +kernel
theorem dX10_looks_254 : decode cX10_looks 254 = .ok (.iaload, 1) := by decide +kernel
theorem dX10_looks_255 : decode cX10_looks 255 = .ok (.iload 4, 2) := by decide +kernel
theorem dX10_looks_257 : decode cX10_looks 257 = .ok (.ifCond .eq 18, 3) := by decide +kernel
theorem dX10_looks_260 : decode cX10_looks 260 = .ok (.aload_n 0, 1) := by decide +kernel
theorem dX10_looks_261 : decode cX10_looks 261 = .ok (.aload_n 0, 1) := by decide +kernel
theorem dX10_looks_262 : decode cX10_looks 262 = .ok (.getfield 102, 3) := by decide +kernel
theorem dX10_looks_265 : decode cX10_looks 265 = .ok (.iload_n 1, 1) := by decide +kernel
theorem dX10_looks_266 : decode cX10_looks 266 = .ok (.iaload, 1) := by decide +kernel
theorem dX10_looks_267 : decode cX10_looks 267 = .ok (.bipush 12, 2) := by decide +kernel
theorem dX10_looks_269 : decode cX10_looks 269 = .ok (.invokevirtual 333, 3) := by decide +kernel
theorem dX10_looks_272 : decode cX10_looks 272 = .ok (.goto 4, 3) := by decide +kernel
theorem dX10_looks_275 : decode cX10_looks 275 = .ok (.iconst 0, 1) := by decide +kernel
theorem dX10_looks_276 : decode cX10_looks 276 = .ok (.iadd, 1) := by decide +kernel
theorem dX10_looks_277 : decode cX10_looks 277 = .ok (.istore 5, 2) := by decide +kernel
theorem dX10_looks_279 : decode cX10_looks 279 = .ok (.aload_n 0, 1) := by decide +kernel
theorem dX10_looks_280 : decode cX10_looks 280 = .ok (.getfield 120, 3) := by decide +kernel
theorem dX10_looks_283 : decode cX10_looks 283 = .ok (.iload_n 1, 1) := by decide +kernel
theorem dX10_looks_284 : decode cX10_looks 284 = .ok (.iaload, 1) := by decide +kernel
theorem dX10_looks_285 : decode cX10_looks 285 = .ok (.iconst (-1), 1) := by decide +kernel
theorem dX10_looks_286 : decode cX10_looks 286 = .ok (.if_icmp .eq 20, 3) := by decide +kernel
theorem dX10_looks_289 : decode cX10_looks 289 = .ok (.aload_n 0, 1) := by decide +kernel
theorem dX10_looks_290 : decode cX10_looks 290 = .ok (.getfield 120, 3) := by decide +kernel
theorem dX10_looks_293 : decode cX10_looks 293 = .ok (.iload_n 1, 1) := by decide +kernel
theorem dX10_looks_294 : decode cX10_looks 294 = .ok (.iaload, 1) := by decide +kernel
theorem dX10_looks_295 : decode cX10_looks 295 = .ok (.iload_n 2, 1) := by decide +kernel
theorem dX10_looks_296 : decode cX10_looks 296 = .ok (.if_icmp .gt 10, 3) := by decide +kernel
theorem dX10_looks_299 : decode cX10_looks 299 = .ok (.aload_n 0, 1) := by decide +kernel
theorem dX10_looks_300 : decode cX10_looks 300 = .ok (.bipush 8, 2) := by decide +kernel
theorem dX10_looks_302 : decode cX10_looks 302 = .ok (.putfield 410, 3) := by decide +kernel
theorem dX10_looks_305 : decode cX10_looks 305 = .ok (.return_, 1) := by decide +kernel
theorem dX10_looks_306 : decode cX10_looks 306 = .ok (.aload_n 0, 1) := by decide +kernel
theorem dX10_looks_307 : decode cX10_looks 307 = .ok (.iload 5, 2) := by decide +kernel
theorem dX10_looks_309 : decode cX10_looks 309 = .ok (.aload_n 0, 1) := by decide +kernel
theorem dX10_looks_310 : decode cX10_looks 310 = .ok (.getfield 398, 3) := by decide +kernel
theorem dX10_looks_313 : decode cX10_looks 313 = .ok (.if_icmp .le 13, 3) := by decide +kernel
theorem dX10_looks_316 : decode cX10_looks 316 = .ok (.iload 5, 2) := by decide +kernel
theorem dX10_looks_318 : decode cX10_looks 318 = .ok (.aload_n 0, 1) := by decide +kernel
theorem dX10_looks_319 : decode cX10_looks 319 = .ok (.getfield 398, 3) := by decide +kernel
theorem dX10_looks_322 : decode cX10_looks 322 = .ok (.isub, 1) := by decide +kernel
theorem dX10_looks_323 : decode cX10_looks 323 = .ok (.goto 4, 3) := by decide +kernel
theorem dX10_looks_326 : decode cX10_looks 326 = .ok (.iconst 0, 1) := by decide +kernel
theorem dX10_looks_327 : decode cX10_looks 327 = .ok (.putfield 401, 3) := by decide +kernel
theorem dX10_looks_330 : decode cX10_looks 330 = .ok (.aload_n 0, 1) := by decide +kernel
theorem dX10_looks_331 : decode cX10_looks 331 = .ok (.aload_n 0, 1) := by decide +kernel
theorem dX10_looks_332 : decode cX10_looks 332 = .ok (.getfield 398, 3) := by decide +kernel
theorem dX10_looks_335 : decode cX10_looks 335 = .ok (.iload 5, 2) := by decide +kernel
theorem dX10_looks_337 : decode cX10_looks 337 = .ok (.if_icmp .le 13, 3) := by decide +kernel
theorem dX10_looks_340 : decode cX10_looks 340 = .ok (.aload_n 0, 1) := by decide +kernel
theorem dX10_looks_341 : decode cX10_looks 341 = .ok (.getfield 398, 3) := by decide +kernel
theorem dX10_looks_344 : decode cX10_looks 344 = .ok (.iload 5, 2) := by decide +kernel
theorem dX10_looks_346 : decode cX10_looks 346 = .ok (.isub, 1) := by decide +kernel
theorem dX10_looks_347 : decode cX10_looks 347 = .ok (.goto 4, 3) := by decide +kernel
theorem dX10_looks_350 : decode cX10_looks 350 = .ok (.iconst 0, 1) := by decide +kernel
theorem dX10_looks_351 : decode cX10_looks 351 = .ok (.putfield 404, 3) := by decide +kernel
theorem dX10_looks_354 : decode cX10_looks 354 = .ok (.iload_n 2, 1) := by decide +kernel
theorem dX10_looks_355 : decode cX10_looks 355 = .ok (.aload_n 0, 1) := by decide +kernel
theorem dX10_looks_356 : decode cX10_looks 356 = .ok (.getfield 114, 3) := by decide +kernel
theorem dX10_looks_359 : decode cX10_looks 359 = .ok (.iload_n 1, 1) := by decide +kernel
theorem dX10_looks_360 : decode cX10_looks 360 = .ok (.iaload, 1) := by decide +kernel
theorem dX10_looks_361 : decode cX10_looks 361 = .ok (.isub, 1) := by decide +kernel
theorem dX10_looks_362 : decode cX10_looks 362 = .ok (.bipush 7, 2) := by decide +kernel
theorem dX10_looks_364 : decode cX10_looks 364 = .ok (.idiv, 1) := by decide +kernel
theorem dX10_looks_365 : decode cX10_looks 365 = .ok (.istore 6, 2) := by decide +kernel
theorem dX10_looks_367 : decode cX10_looks 367 = .ok (.aload_n 0, 1) := by decide +kernel
theorem dX10_looks_368 : decode cX10_looks 368 = .ok (.getfield 132, 3) := by decide +kernel
theorem dX10_looks_371 : decode cX10_looks 371 = .ok (.iload_n 1, 1) := by decide +kernel
theorem dX10_looks_372 : decode cX10_looks 372 = .ok (.iaload, 1) := by decide +kernel
theorem dX10_looks_373 : decode cX10_looks 373 = .ok (.iload 6, 2) := by decide +kernel
theorem dX10_looks_375 : decode cX10_looks 375 = .ok (.imul, 1) := by decide +kernel
theorem dX10_looks_376 : decode cX10_looks 376 = .ok (.iload 5, 2) := by decide +kernel
theorem dX10_looks_378 : decode cX10_looks 378 = .ok (.if_icmp .ge 15, 3) := by decide +kernel
theorem dX10_looks_381 : decode cX10_looks 381 = .ok (.aload_n 0, 1) := by decide +kernel
theorem dX10_looks_382 : decode cX10_looks 382 = .ok (.getfield 132, 3) := by decide +kernel
theorem dX10_looks_385 : decode cX10_looks 385 = .ok (.iload_n 1, 1) := by decide +kernel
theorem dX10_looks_386 : decode cX10_looks 386 = .ok (.iaload, 1) := by decide +kernel
theorem dX10_looks_387 : decode cX10_looks 387 = .ok (.iload 6, 2) := by decide +kernel
theorem dX10_looks_389 : decode cX10_looks 389 = .ok (.imul, 1) := by decide +kernel
theorem dX10_looks_390 : decode cX10_looks 390 = .ok (.goto 5, 3) := by decide +kernel
theorem dX10_looks_393 : decode cX10_looks 393 = .ok (.iload 5, 2) := by decide +kernel
theorem dX10_looks_395 : decode cX10_looks 395 = .ok (.istore 7, 2) := by decide +kernel
theorem dX10_looks_397 : decode cX10_looks 397 = .ok (.aload_n 0, 1) := by decide +kernel
theorem dX10_looks_398 : decode cX10_looks 398 = .ok (.iload 7, 2) := by decide +kernel
theorem dX10_looks_400 : decode cX10_looks 400 = .ok (.aload_n 0, 1) := by decide +kernel
theorem dX10_looks_401 : decode cX10_looks 401 = .ok (.getfield 398, 3) := by decide +kernel
theorem dX10_looks_404 : decode cX10_looks 404 = .ok (.if_icmp .le 29, 3) := by decide +kernel
theorem dX10_looks_407 : decode cX10_looks 407 = .ok (.iload 7, 2) := by decide +kernel
theorem dX10_looks_409 : decode cX10_looks 409 = .ok (.aload_n 0, 1) := by decide +kernel
theorem dX10_looks_410 : decode cX10_looks 410 = .ok (.getfield 398, 3) := by decide +kernel
theorem dX10_looks_413 : decode cX10_looks 413 = .ok (.isub, 1) := by decide +kernel
theorem dX10_looks_414 : decode cX10_looks 414 = .ok (.aload_n 0, 1) := by decide +kernel
theorem dX10_looks_415 : decode cX10_looks 415 = .ok (.getfield 132, 3) := by decide +kernel
theorem dX10_looks_418 : decode cX10_looks 418 = .ok (.iload_n 1, 1) := by decide +kernel
theorem dX10_looks_419 : decode cX10_looks 419 = .ok (.iaload, 1) := by decide +kernel
theorem dX10_looks_420 : decode cX10_looks 420 = .ok (.iadd, 1) := by decide +kernel
theorem dX10_looks_421 : decode cX10_looks 421 = .ok (.iconst 1, 1) := by decide +kernel
theorem dX10_looks_422 : decode cX10_looks 422 = .ok (.isub, 1) := by decide +kernel
theorem dX10_looks_423 : decode cX10_looks 423 = .ok (.aload_n 0, 1) := by decide +kernel
theorem dX10_looks_424 : decode cX10_looks 424 = .ok (.getfield 132, 3) := by decide +kernel
theorem dX10_looks_427 : decode cX10_looks 427 = .ok (.iload_n 1, 1) := by decide +kernel
theorem dX10_looks_428 : decode cX10_looks 428 = .ok (.iaload, 1) := by decide +kernel
theorem dX10_looks_429 : decode cX10_looks 429 = .ok (.idiv, 1) := by decide +kernel
theorem dX10_looks_430 : decode cX10_looks 430 = .ok (.goto 4, 3) := by decide +kernel
theorem dX10_looks_433 : decode cX10_looks 433 = .ok (.iconst 0, 1) := by decide +kernel
theorem dX10_looks_434 : decode cX10_looks 434 = .ok (.putfield 407, 3) := by decide +kernel
theorem dX10_looks_437 : decode cX10_looks 437 = .ok (.aload_n 0, 1) := by decide +kernel
theorem dX10_looks_438 : decode cX10_looks 438 = .ok (.aload_n 0, 1) := by decide +kernel
theorem dX10_looks_439 : decode cX10_looks 439 = .ok (.getfield 102, 3) := by decide +kernel
theorem dX10_looks_442 : decode cX10_looks 442 = .ok (.iload_n 1, 1) := by decide +kernel
theorem dX10_looks_443 : decode cX10_looks 443 = .ok (.iaload, 1) := by decide +kernel
theorem dX10_looks_444 : decode cX10_looks 444 = .ok (.iconst 4, 1) := by decide +kernel
theorem dX10_looks_445 : decode cX10_looks 445 = .ok (.invokevirtual 333, 3) := by decide +kernel
theorem dX10_looks_448 : decode cX10_looks 448 = .ok (.istore 8, 2) := by decide +kernel
theorem dX10_looks_450 : decode cX10_looks 450 = .ok (.aload_n 0, 1) := by decide +kernel
theorem dX10_looks_451 : decode cX10_looks 451 = .ok (.aload_n 0, 1) := by decide +kernel
theorem dX10_looks_452 : decode cX10_looks 452 = .ok (.getfield 401, 3) := by decide +kernel
theorem dX10_looks_455 : decode cX10_looks 455 = .ok (.ifCond .ne 8, 3) := by decide +kernel
theorem dX10_looks_458 : decode cX10_looks 458 = .ok (.bipush 7, 2) := by decide +kernel
theorem dX10_looks_460 : decode cX10_looks 460 = .ok (.goto 43, 3) := by decide +kernel
theorem dX10_looks_463 : decode cX10_looks 463 = .ok (.aload_n 0, 1) := by decide +kernel
theorem dX10_looks_464 : decode cX10_looks 464 = .ok (.getfield 407, 3) := by decide +kernel
theorem dX10_looks_467 : decode cX10_looks 467 = .ok (.iload 8, 2) := by decide +kernel
theorem dX10_looks_469 : decode cX10_looks 469 = .ok (.aload_n 0, 1) := by decide +kernel
theorem dX10_looks_470 : decode cX10_looks 470 = .ok (.aload_n 0, 1) := by decide +kernel
theorem dX10_looks_471 : decode cX10_looks 471 = .ok (.getfield 102, 3) := by decide +kernel
theorem dX10_looks_474 : decode cX10_looks 474 = .ok (.iload_n 1, 1) := by decide +kernel
theorem dX10_looks_475 : decode cX10_looks 475 = .ok (.iaload, 1) := by decide +kernel
theorem dX10_looks_476 : decode cX10_looks 476 = .ok (.iconst 5, 1) := by decide +kernel
theorem dX10_looks_477 : decode cX10_looks 477 = .ok (.invokevirtual 333, 3) := by decide +kernel
theorem dX10_looks_480 : decode cX10_looks 480 = .ok (.iadd, 1) := by decide +kernel
theorem dX10_looks_481 : decode cX10_looks 481 = .ok (.if_icmp .lt 8, 3) := by decide +kernel
theorem dX10_looks_484 : decode cX10_looks 484 = .ok (.bipush 6, 2) := by decide +kernel
theorem dX10_looks_486 : decode cX10_looks 486 = .ok (.goto 17, 3) := by decide +kernel
theorem dX10_looks_489 : decode cX10_looks 489 = .ok (.aload_n 0, 1) := by decide +kernel
theorem dX10_looks_490 : decode cX10_looks 490 = .ok (.getfield 407, 3) := by decide +kernel
theorem dX10_looks_493 : decode cX10_looks 493 = .ok (.iload 8, 2) := by decide +kernel
theorem dX10_looks_495 : decode cX10_looks 495 = .ok (.if_icmp .lt 7, 3) := by decide +kernel
theorem dX10_looks_498 : decode cX10_looks 498 = .ok (.iconst 5, 1) := by decide +kernel
theorem dX10_looks_499 : decode cX10_looks 499 = .ok (.goto 4, 3) := by decide +kernel
theorem dX10_looks_502 : decode cX10_looks 502 = .ok (.iconst 4, 1) := by decide +kernel
theorem dX10_looks_503 : decode cX10_looks 503 = .ok (.putfield 410, 3) := by decide +kernel
theorem dX10_looks_506 : decode cX10_looks 506 = .ok (.return_, 1) := by decide +kernel
theorem dX10_isOpen_0 : decode cX10_isOpen 0 = .ok (.aload_n 0, 1) := by decide +kernel
theorem dX10_isOpen_1 : decode cX10_isOpen 1 = .ok (.iload_n 1, 1) := by decide +kernel
theorem dX10_isOpen_2 : decode cX10_isOpen 2 = .ok (.aload_n 0, 1) := by decide +kernel
theorem dX10_isOpen_3 : decode cX10_isOpen 3 = .ok (.getfield 232, 3) := by decide +kernel
theorem dX10_isOpen_6 : decode cX10_isOpen 6 = .ok (.aload_n 0, 1) := by decide +kernel
theorem dX10_isOpen_7 : decode cX10_isOpen 7 = .ok (.getfield 232, 3) := by decide +kernel
theorem dX10_isOpen_10 : decode cX10_isOpen 10 = .ok (.invokevirtual 416, 3) := by decide +kernel
theorem dX10_isOpen_13 : decode cX10_isOpen 13 = .ok (.aload_n 0, 1) := by decide +kernel
theorem dX10_isOpen_14 : decode cX10_isOpen 14 = .ok (.getfield 410, 3) := by decide +kernel
theorem dX10_isOpen_17 : decode cX10_isOpen 17 = .ok (.iconst 4, 1) := by decide +kernel
theorem dX10_isOpen_18 : decode cX10_isOpen 18 = .ok (.bipush 6, 2) := by decide +kernel
theorem dX10_isOpen_20 : decode cX10_isOpen 20 = .ok (.invokestatic 228, 3) := by decide +kernel
theorem dX10_isOpen_23 : decode cX10_isOpen 23 = .ok (.ireturn, 1) := by decide +kernel
theorem dX10_means_0 : decode cX10_means 0 = .ok (.aload_n 0, 1) := by decide +kernel
theorem dX10_means_1 : decode cX10_means 1 = .ok (.getfield 41, 3) := by decide +kernel
theorem dX10_means_4 : decode cX10_means 4 = .ok (.iload_n 1, 1) := by decide +kernel
theorem dX10_means_5 : decode cX10_means 5 = .ok (.iaload, 1) := by decide +kernel
theorem dX10_means_6 : decode cX10_means 6 = .ok (.aload_n 0, 1) := by decide +kernel
theorem dX10_means_7 : decode cX10_means 7 = .ok (.iload_n 2, 1) := by decide +kernel
theorem dX10_means_8 : decode cX10_means 8 = .ok (.iconst 3, 1) := by decide +kernel
theorem dX10_means_9 : decode cX10_means 9 = .ok (.invokevirtual 333, 3) := by decide +kernel
theorem dX10_means_12 : decode cX10_means 12 = .ok (.aload_n 0, 1) := by decide +kernel
theorem dX10_means_13 : decode cX10_means 13 = .ok (.getfield 44, 3) := by decide +kernel
theorem dX10_means_16 : decode cX10_means 16 = .ok (.iload_n 1, 1) := by decide +kernel
theorem dX10_means_17 : decode cX10_means 17 = .ok (.iaload, 1) := by decide +kernel
theorem dX10_means_18 : decode cX10_means 18 = .ok (.imul, 1) := by decide +kernel
theorem dX10_means_19 : decode cX10_means 19 = .ok (.isub, 1) := by decide +kernel
theorem dX10_means_20 : decode cX10_means 20 = .ok (.ireturn, 1) := by decide +kernel
theorem dX10_order_0 : decode cX10_order 0 = .ok (.aload_n 0, 1) := by decide +kernel
theorem dX10_order_1 : decode cX10_order 1 = .ok (.iload_n 1, 1) := by decide +kernel
theorem dX10_order_2 : decode cX10_order 2 = .ok (.invokevirtual 370, 3) := by decide +kernel
theorem dX10_order_5 : decode cX10_order 5 = .ok (.ifCond .eq 48, 3) := by decide +kernel
theorem dX10_order_8 : decode cX10_order 8 = .ok (.aload_n 0, 1) := by decide +kernel
theorem dX10_order_9 : decode cX10_order 9 = .ok (.getfield 123, 3) := by decide +kernel
theorem dX10_order_12 : decode cX10_order 12 = .ok (.iload_n 1, 1) := by decide +kernel
theorem dX10_order_13 : decode cX10_order 13 = .ok (.iaload, 1) := by decide +kernel
theorem dX10_order_14 : decode cX10_order 14 = .ok (.iconst 5, 1) := by decide +kernel
theorem dX10_order_15 : decode cX10_order 15 = .ok (.if_icmp .ne 38, 3) := by decide +kernel
theorem dX10_order_18 : decode cX10_order 18 = .ok (.aload_n 0, 1) := by decide +kernel
theorem dX10_order_19 : decode cX10_order 19 = .ok (.getfield 114, 3) := by decide +kernel
theorem dX10_order_22 : decode cX10_order 22 = .ok (.iload_n 1, 1) := by decide +kernel
theorem dX10_order_23 : decode cX10_order 23 = .ok (.iaload, 1) := by decide +kernel
theorem dX10_order_24 : decode cX10_order 24 = .ok (.iconst (-1), 1) := by decide +kernel
theorem dX10_order_25 : decode cX10_order 25 = .ok (.if_icmp .ne 28, 3) := by decide +kernel
theorem dX10_order_28 : decode cX10_order 28 = .ok (.aload_n 0, 1) := by decide +kernel
theorem dX10_order_29 : decode cX10_order 29 = .ok (.getfield 56, 3) := by decide +kernel
theorem dX10_order_32 : decode cX10_order 32 = .ok (.aload_n 0, 1) := by decide +kernel
theorem dX10_order_33 : decode cX10_order 33 = .ok (.getfield 84, 3) := by decide +kernel
theorem dX10_order_36 : decode cX10_order 36 = .ok (.iload_n 1, 1) := by decide +kernel
theorem dX10_order_37 : decode cX10_order 37 = .ok (.iaload, 1) := by decide +kernel
theorem dX10_order_38 : decode cX10_order 38 = .ok (.baload, 1) := by decide +kernel
theorem dX10_order_39 : decode cX10_order 39 = .ok (.ifCond .ne 14, 3) := by decide +kernel
theorem dX10_order_42 : decode cX10_order 42 = .ok (.iload_n 2, 1) := by decide +kernel
theorem dX10_order_43 : decode cX10_order 43 = .ok (.iconst 1, 1) := by decide +kernel
theorem dX10_order_44 : decode cX10_order 44 = .ok (.sipush 9999, 3) := by decide +kernel
theorem dX10_order_47 : decode cX10_order 47 = .ok (.invokestatic 228, 3) := by decide +kernel
theorem dX10_order_50 : decode cX10_order 50 = .ok (.ifCond .ne 5, 3) := by decide +kernel
theorem dX10_order_53 : decode cX10_order 53 = .ok (.iconst (-1), 1) := by decide +kernel
theorem dX10_order_54 : decode cX10_order 54 = .ok (.ireturn, 1) := by decide +kernel
theorem dX10_order_55 : decode cX10_order 55 = .ok (.aload_n 0, 1) := by decide +kernel
theorem dX10_order_56 : decode cX10_order 56 = .ok (.getfield 102, 3) := by decide +kernel
theorem dX10_order_59 : decode cX10_order 59 = .ok (.iload_n 1, 1) := by decide +kernel
theorem dX10_order_60 : decode cX10_order 60 = .ok (.iaload, 1) := by decide +kernel
theorem dX10_order_61 : decode cX10_order 61 = .ok (.istore_n 3, 1) := by decide +kernel
theorem dX10_order_62 : decode cX10_order 62 = .ok (.aload_n 0, 1) := by decide +kernel
theorem dX10_order_63 : decode cX10_order 63 = .ok (.getfield 87, 3) := by decide +kernel
theorem dX10_order_66 : decode cX10_order 66 = .ok (.iload_n 1, 1) := by decide +kernel
theorem dX10_order_67 : decode cX10_order 67 = .ok (.iaload, 1) := by decide +kernel
theorem dX10_order_68 : decode cX10_order 68 = .ok (.aload_n 0, 1) := by decide +kernel
theorem dX10_order_69 : decode cX10_order 69 = .ok (.getfield 105, 3) := by decide +kernel
theorem dX10_order_72 : decode cX10_order 72 = .ok (.iload_n 1, 1) := by decide +kernel
theorem dX10_order_73 : decode cX10_order 73 = .ok (.iaload, 1) := by decide +kernel
theorem dX10_order_74 : decode cX10_order 74 = .ok (.aload_n 0, 1) := by decide +kernel
theorem dX10_order_75 : decode cX10_order 75 = .ok (.iload_n 3, 1) := by decide +kernel
theorem dX10_order_76 : decode cX10_order 76 = .ok (.bipush 9, 2) := by decide +kernel
theorem dX10_order_78 : decode cX10_order 78 = .ok (.invokevirtual 333, 3) := by decide +kernel
theorem dX10_order_81 : decode cX10_order 81 = .ok (.imul, 1) := by decide +kernel
theorem dX10_order_82 : decode cX10_order 82 = .ok (.iadd, 1) := by decide +kernel
theorem dX10_order_83 : decode cX10_order 83 = .ok (.aload_n 0, 1) := by decide +kernel
theorem dX10_order_84 : decode cX10_order 84 = .ok (.iload_n 3, 1) := by decide +kernel
theorem dX10_order_85 : decode cX10_order 85 = .ok (.bipush 10, 2) := by decide +kernel
theorem dX10_order_87 : decode cX10_order 87 = .ok (.invokevirtual 333, 3) := by decide +kernel
theorem dX10_order_90 : decode cX10_order 90 = .ok (.iadd, 1) := by decide +kernel
theorem dX10_order_91 : decode cX10_order 91 = .ok (.aload_n 0, 1) := by decide +kernel
theorem dX10_order_92 : decode cX10_order 92 = .ok (.iload_n 3, 1) := by decide +kernel
theorem dX10_order_93 : decode cX10_order 93 = .ok (.bipush 11, 2) := by decide +kernel
theorem dX10_order_95 : decode cX10_order 95 = .ok (.invokevirtual 333, 3) := by decide +kernel
theorem dX10_order_98 : decode cX10_order 98 = .ok (.iadd, 1) := by decide +kernel
theorem dX10_order_99 : decode cX10_order 99 = .ok (.istore 4, 2) := by decide +kernel
theorem dX10_order_101 : decode cX10_order 101 = .ok (.iload_n 2, 1) := by decide +kernel
theorem dX10_order_102 : decode cX10_order 102 = .ok (.aload_n 0, 1) := by decide +kernel
theorem dX10_order_103 : decode cX10_order 103 = .ok (.iload_n 3, 1) := by decide +kernel
theorem dX10_order_104 : decode cX10_order 104 = .ok (.iconst 2, 1) := by decide +kernel
theorem dX10_order_105 : decode cX10_order 105 = .ok (.invokevirtual 333, 3) := by decide +kernel
theorem dX10_order_108 : decode cX10_order 108 = .ok (.if_icmp .ge 12, 3) := by decide +kernel
theorem dX10_order_111 : decode cX10_order 111 = .ok (.iload_n 2, 1) := by decide +kernel
theorem dX10_order_112 : decode cX10_order 112 = .ok (.iload 4, 2) := by decide +kernel
theorem dX10_order_114 : decode cX10_order 114 = .ok (.if_icmp .ge 6, 3) := by decide +kernel
theorem dX10_order_117 : decode cX10_order 117 = .ok (.bipush (-2), 2) := by decide +kernel
theorem dX10_order_119 : decode cX10_order 119 = .ok (.ireturn, 1) := by decide +kernel
theorem dX10_order_120 : decode cX10_order 120 = .ok (.iconst 0, 1) := by decide +kernel
theorem dX10_order_121 : decode cX10_order 121 = .ok (.istore 5, 2) := by decide +kernel
theorem dX10_order_123 : decode cX10_order 123 = .ok (.iconst 0, 1) := by decide +kernel
theorem dX10_order_124 : decode cX10_order 124 = .ok (.istore 6, 2) := by decide +kernel
theorem dX10_order_126 : decode cX10_order 126 = .ok (.iload 6, 2) := by decide +kernel
theorem dX10_order_128 : decode cX10_order 128 = .ok (.aload_n 0, 1) := by decide +kernel
theorem dX10_order_129 : decode cX10_order 129 = .ok (.getfield 367, 3) := by decide +kernel
theorem dX10_order_132 : decode cX10_order 132 = .ok (.if_icmp .ge 50, 3) := by decide +kernel
theorem dX10_order_135 : decode cX10_order 135 = .ok (.iload 5, 2) := by decide +kernel
theorem dX10_order_137 : decode cX10_order 137 = .ok (.aload_n 0, 1) := by decide +kernel
theorem dX10_order_138 : decode cX10_order 138 = .ok (.getfield 84, 3) := by decide +kernel
theorem dX10_order_141 : decode cX10_order 141 = .ok (.iload 6, 2) := by decide +kernel
theorem dX10_order_143 : decode cX10_order 143 = .ok (.iaload, 1) := by decide +kernel
theorem dX10_order_144 : decode cX10_order 144 = .ok (.aload_n 0, 1) := by decide +kernel
theorem dX10_order_145 : decode cX10_order 145 = .ok (.getfield 84, 3) := by decide +kernel
theorem dX10_order_148 : decode cX10_order 148 = .ok (.iload_n 1, 1) := by decide +kernel
theorem dX10_order_149 : decode cX10_order 149 = .ok (.iaload, 1) := by decide +kernel
theorem dX10_order_150 : decode cX10_order 150 = .ok (.if_icmp .ne 22, 3) := by decide +kernel
theorem dX10_order_153 : decode cX10_order 153 = .ok (.aload_n 0, 1) := by decide +kernel
theorem dX10_order_154 : decode cX10_order 154 = .ok (.iload 6, 2) := by decide +kernel
theorem dX10_order_156 : decode cX10_order 156 = .ok (.invokevirtual 419, 3) := by decide +kernel
theorem dX10_order_159 : decode cX10_order 159 = .ok (.ifCond .eq 13, 3) := by decide +kernel
theorem dX10_order_162 : decode cX10_order 162 = .ok (.aload_n 0, 1) := by decide +kernel
theorem dX10_order_163 : decode cX10_order 163 = .ok (.getfield 132, 3) := by decide +kernel
theorem dX10_order_166 : decode cX10_order 166 = .ok (.iload 6, 2) := by decide +kernel
theorem dX10_order_168 : decode cX10_order 168 = .ok (.iaload, 1) := by decide +kernel
theorem dX10_order_169 : decode cX10_order 169 = .ok (.goto 4, 3) := by decide +kernel
theorem dX10_order_172 : decode cX10_order 172 = .ok (.iconst 0, 1) := by decide +kernel
theorem dX10_order_173 : decode cX10_order 173 = .ok (.iadd, 1) := by decide +kernel
theorem dX10_order_174 : decode cX10_order 174 = .ok (.istore 5, 2) := by decide +kernel
theorem dX10_order_176 : decode cX10_order 176 = .ok (.iinc 6 1, 3) := by decide +kernel
theorem dX10_order_179 : decode cX10_order 179 = .ok (.goto (-53), 3) := by decide +kernel
theorem dX10_order_182 : decode cX10_order 182 = .ok (.iload_n 2, 1) := by decide +kernel
theorem dX10_order_183 : decode cX10_order 183 = .ok (.iload 5, 2) := by decide +kernel
theorem dX10_order_185 : decode cX10_order 185 = .ok (.iadd, 1) := by decide +kernel
theorem dX10_order_186 : decode cX10_order 186 = .ok (.aload_n 0, 1) := by decide +kernel
theorem dX10_order_187 : decode cX10_order 187 = .ok (.aload_n 0, 1) := by decide +kernel
theorem dX10_order_188 : decode cX10_order 188 = .ok (.getfield 84, 3) := by decide +kernel
theorem dX10_order_191 : decode cX10_order 191 = .ok (.iload_n 1, 1) := by decide +kernel
theorem dX10_order_192 : decode cX10_order 192 = .ok (.iaload, 1) := by decide +kernel
theorem dX10_order_193 : decode cX10_order 193 = .ok (.iload_n 3, 1) := by decide +kernel
theorem dX10_order_194 : decode cX10_order 194 = .ok (.invokevirtual 422, 3) := by decide +kernel
theorem dX10_order_197 : decode cX10_order 197 = .ok (.if_icmp .le 6, 3) := by decide +kernel
theorem dX10_order_200 : decode cX10_order 200 = .ok (.bipush (-3), 2) := by decide +kernel
theorem dX10_order_202 : decode cX10_order 202 = .ok (.ireturn, 1) := by decide +kernel
theorem dX10_order_203 : decode cX10_order 203 = .ok (.aload_n 0, 1) := by decide +kernel
theorem dX10_order_204 : decode cX10_order 204 = .ok (.getfield 114, 3) := by decide +kernel
theorem dX10_order_207 : decode cX10_order 207 = .ok (.iload_n 1, 1) := by decide +kernel
theorem dX10_order_208 : decode cX10_order 208 = .ok (.aload_n 0, 1) := by decide +kernel
theorem dX10_order_209 : decode cX10_order 209 = .ok (.getfield 232, 3) := by decide +kernel
theorem dX10_order_212 : decode cX10_order 212 = .ok (.iastore, 1) := by decide +kernel
theorem dX10_order_213 : decode cX10_order 213 = .ok (.aload_n 0, 1) := by decide +kernel
theorem dX10_order_214 : decode cX10_order 214 = .ok (.getfield 132, 3) := by decide +kernel
theorem dX10_order_217 : decode cX10_order 217 = .ok (.iload_n 1, 1) := by decide +kernel
theorem dX10_order_218 : decode cX10_order 218 = .ok (.iload_n 2, 1) := by decide +kernel
theorem dX10_order_219 : decode cX10_order 219 = .ok (.iastore, 1) := by decide +kernel
theorem dX10_order_220 : decode cX10_order 220 = .ok (.aload_n 0, 1) := by decide +kernel
theorem dX10_order_221 : decode cX10_order 221 = .ok (.getfield 135, 3) := by decide +kernel
theorem dX10_order_224 : decode cX10_order 224 = .ok (.iload_n 1, 1) := by decide +kernel
theorem dX10_order_225 : decode cX10_order 225 = .ok (.iload 4, 2) := by decide +kernel
theorem dX10_order_227 : decode cX10_order 227 = .ok (.iastore, 1) := by decide +kernel
theorem dX10_order_228 : decode cX10_order 228 = .ok (.iload 4, 2) := by decide +kernel
theorem dX10_order_230 : decode cX10_order 230 = .ok (.ireturn, 1) := by decide +kernel
theorem dX10_pays_0 : decode cX10_pays 0 = .ok (.aload_n 0, 1) := by decide +kernel
theorem dX10_pays_1 : decode cX10_pays 1 = .ok (.getfield 144, 3) := by decide +kernel
theorem dX10_pays_4 : decode cX10_pays 4 = .ok (.aload_n 0, 1) := by decide +kernel
theorem dX10_pays_5 : decode cX10_pays 5 = .ok (.getfield 413, 3) := by decide +kernel
theorem dX10_pays_8 : decode cX10_pays 8 = .ok (.iload_n 1, 1) := by decide +kernel
theorem dX10_pays_9 : decode cX10_pays 9 = .ok (.iastore, 1) := by decide +kernel
theorem dX10_pays_10 : decode cX10_pays 10 = .ok (.aload_n 0, 1) := by decide +kernel
theorem dX10_pays_11 : decode cX10_pays 11 = .ok (.getfield 147, 3) := by decide +kernel
theorem dX10_pays_14 : decode cX10_pays 14 = .ok (.aload_n 0, 1) := by decide +kernel
theorem dX10_pays_15 : decode cX10_pays 15 = .ok (.getfield 413, 3) := by decide +kernel
theorem dX10_pays_18 : decode cX10_pays 18 = .ok (.iload_n 2, 1) := by decide +kernel
theorem dX10_pays_19 : decode cX10_pays 19 = .ok (.iastore, 1) := by decide +kernel
theorem dX10_pays_20 : decode cX10_pays 20 = .ok (.aload_n 0, 1) := by decide +kernel
theorem dX10_pays_21 : decode cX10_pays 21 = .ok (.getfield 150, 3) := by decide +kernel
theorem dX10_pays_24 : decode cX10_pays 24 = .ok (.aload_n 0, 1) := by decide +kernel
theorem dX10_pays_25 : decode cX10_pays 25 = .ok (.getfield 413, 3) := by decide +kernel
theorem dX10_pays_28 : decode cX10_pays 28 = .ok (.iload_n 3, 1) := by decide +kernel
theorem dX10_pays_29 : decode cX10_pays 29 = .ok (.iastore, 1) := by decide +kernel
theorem dX10_pays_30 : decode cX10_pays 30 = .ok (.aload_n 0, 1) := by decide +kernel
theorem dX10_pays_31 : decode cX10_pays 31 = .ok (.getfield 153, 3) := by decide +kernel
theorem dX10_pays_34 : decode cX10_pays 34 = .ok (.aload_n 0, 1) := by decide +kernel
theorem dX10_pays_35 : decode cX10_pays 35 = .ok (.getfield 413, 3) := by decide +kernel
theorem dX10_pays_38 : decode cX10_pays 38 = .ok (.aload_n 0, 1) := by decide +kernel
theorem dX10_pays_39 : decode cX10_pays 39 = .ok (.getfield 232, 3) := by decide +kernel
theorem dX10_pays_42 : decode cX10_pays 42 = .ok (.iastore, 1) := by decide +kernel
theorem dX10_pays_43 : decode cX10_pays 43 = .ok (.aload_n 0, 1) := by decide +kernel
theorem dX10_pays_44 : decode cX10_pays 44 = .ok (.getfield 156, 3) := by decide +kernel
theorem dX10_pays_47 : decode cX10_pays 47 = .ok (.aload_n 0, 1) := by decide +kernel
theorem dX10_pays_48 : decode cX10_pays 48 = .ok (.getfield 413, 3) := by decide +kernel
theorem dX10_pays_51 : decode cX10_pays 51 = .ok (.iconst (-1), 1) := by decide +kernel
theorem dX10_pays_52 : decode cX10_pays 52 = .ok (.iastore, 1) := by decide +kernel
theorem dX10_pays_53 : decode cX10_pays 53 = .ok (.aload_n 0, 1) := by decide +kernel
theorem dX10_pays_54 : decode cX10_pays 54 = .ok (.dup, 1) := by decide +kernel
theorem dX10_pays_55 : decode cX10_pays 55 = .ok (.getfield 413, 3) := by decide +kernel
theorem dX10_pays_58 : decode cX10_pays 58 = .ok (.iconst 1, 1) := by decide +kernel
theorem dX10_pays_59 : decode cX10_pays 59 = .ok (.iadd, 1) := by decide +kernel
theorem dX10_pays_60 : decode cX10_pays 60 = .ok (.putfield 413, 3) := by decide +kernel
theorem dX10_pays_63 : decode cX10_pays 63 = .ok (.aload_n 0, 1) := by decide +kernel
theorem dX10_pays_64 : decode cX10_pays 64 = .ok (.getfield 413, 3) := by decide +kernel
theorem dX10_pays_67 : decode cX10_pays 67 = .ok (.iconst 1, 1) := by decide +kernel
theorem dX10_pays_68 : decode cX10_pays 68 = .ok (.isub, 1) := by decide +kernel
theorem dX10_pays_69 : decode cX10_pays 69 = .ok (.ireturn, 1) := by decide +kernel
theorem dX10_pay_0 : decode cX10_pay 0 = .ok (.aload_n 0, 1) := by decide +kernel
theorem dX10_pay_1 : decode cX10_pay 1 = .ok (.getfield 413, 3) := by decide +kernel
theorem dX10_pay_4 : decode cX10_pay 4 = .ok (.sipush 600, 3) := by decide +kernel
theorem dX10_pay_7 : decode cX10_pay 7 = .ok (.if_icmp .eq 59, 3) := by decide +kernel
theorem dX10_pay_10 : decode cX10_pay 10 = .ok (.aload_n 0, 1) := by decide +kernel
theorem dX10_pay_11 : decode cX10_pay 11 = .ok (.iload_n 1, 1) := by decide +kernel
theorem dX10_pay_12 : decode cX10_pay 12 = .ok (.invokevirtual 370, 3) := by decide +kernel
theorem dX10_pay_15 : decode cX10_pay 15 = .ok (.ifCond .eq 51, 3) := by decide +kernel
theorem dX10_pay_18 : decode cX10_pay 18 = .ok (.aload_n 0, 1) := by decide +kernel
theorem dX10_pay_19 : decode cX10_pay 19 = .ok (.getfield 114, 3) := by decide +kernel
theorem dX10_pay_22 : decode cX10_pay 22 = .ok (.iload_n 1, 1) := by decide +kernel
theorem dX10_pay_23 : decode cX10_pay 23 = .ok (.iaload, 1) := by decide +kernel
theorem dX10_pay_24 : decode cX10_pay 24 = .ok (.iconst (-1), 1) := by decide +kernel
theorem dX10_pay_25 : decode cX10_pay 25 = .ok (.if_icmp .eq 41, 3) := by decide +kernel
theorem dX10_pay_28 : decode cX10_pay 28 = .ok (.aload_n 0, 1) := by decide +kernel
theorem dX10_pay_29 : decode cX10_pay 29 = .ok (.getfield 120, 3) := by decide +kernel
theorem dX10_pay_32 : decode cX10_pay 32 = .ok (.iload_n 1, 1) := by decide +kernel
theorem dX10_pay_33 : decode cX10_pay 33 = .ok (.iaload, 1) := by decide +kernel
theorem dX10_pay_34 : decode cX10_pay 34 = .ok (.iconst (-1), 1) := by decide +kernel
theorem dX10_pay_35 : decode cX10_pay 35 = .ok (.if_icmp .ne 31, 3) := by decide +kernel
theorem dX10_pay_38 : decode cX10_pay 38 = .ok (.iload_n 2, 1) := by decide +kernel
theorem dX10_pay_39 : decode cX10_pay 39 = .ok (.aload_n 0, 1) := by decide +kernel
theorem dX10_pay_40 : decode cX10_pay 40 = .ok (.getfield 114, 3) := by decide +kernel
theorem dX10_pay_43 : decode cX10_pay 43 = .ok (.iload_n 1, 1) := by decide +kernel
theorem dX10_pay_44 : decode cX10_pay 44 = .ok (.iaload, 1) := by decide +kernel
theorem dX10_pay_45 : decode cX10_pay 45 = .ok (.aload_n 0, 1) := by decide +kernel
theorem dX10_pay_46 : decode cX10_pay 46 = .ok (.getfield 232, 3) := by decide +kernel
theorem dX10_pay_49 : decode cX10_pay 49 = .ok (.invokestatic 228, 3) := by decide +kernel
theorem dX10_pay_52 : decode cX10_pay 52 = .ok (.ifCond .eq 14, 3) := by decide +kernel
theorem dX10_pay_55 : decode cX10_pay 55 = .ok (.iload_n 3, 1) := by decide +kernel
theorem dX10_pay_56 : decode cX10_pay 56 = .ok (.iconst 1, 1) := by decide +kernel
theorem dX10_pay_57 : decode cX10_pay 57 = .ok (.sipush 9999, 3) := by decide +kernel
theorem dX10_pay_60 : decode cX10_pay 60 = .ok (.invokestatic 228, 3) := by decide +kernel
theorem dX10_pay_63 : decode cX10_pay 63 = .ok (.ifCond .ne 5, 3) := by decide +kernel
theorem dX10_pay_66 : decode cX10_pay 66 = .ok (.iconst (-1), 1) := by decide +kernel
theorem dX10_pay_67 : decode cX10_pay 67 = .ok (.ireturn, 1) := by decide +kernel
theorem dX10_pay_68 : decode cX10_pay 68 = .ok (.aload_n 0, 1) := by decide +kernel
theorem dX10_pay_69 : decode cX10_pay 69 = .ok (.iload_n 1, 1) := by decide +kernel
theorem dX10_pay_70 : decode cX10_pay 70 = .ok (.iload_n 2, 1) := by decide +kernel
theorem dX10_pay_71 : decode cX10_pay 71 = .ok (.iload_n 3, 1) := by decide +kernel
theorem dX10_pay_72 : decode cX10_pay 72 = .ok (.invokevirtual 425, 3) := by decide +kernel
theorem dX10_pay_75 : decode cX10_pay 75 = .ok (.ireturn, 1) := by decide +kernel
theorem dX10_strike_0 : decode cX10_strike 0 = .ok (.iload_n 1, 1) := by decide +kernel
theorem dX10_strike_1 : decode cX10_strike 1 = .ok (.iconst 0, 1) := by decide +kernel
theorem dX10_strike_2 : decode cX10_strike 2 = .ok (.aload_n 0, 1) := by decide +kernel
theorem dX10_strike_3 : decode cX10_strike 3 = .ok (.getfield 413, 3) := by decide +kernel
theorem dX10_strike_6 : decode cX10_strike 6 = .ok (.iconst 1, 1) := by decide +kernel
theorem dX10_strike_7 : decode cX10_strike 7 = .ok (.isub, 1) := by decide +kernel
theorem dX10_strike_8 : decode cX10_strike 8 = .ok (.invokestatic 228, 3) := by decide +kernel
theorem dX10_strike_11 : decode cX10_strike 11 = .ok (.ifCond .eq 13, 3) := by decide +kernel
theorem dX10_strike_14 : decode cX10_strike 14 = .ok (.aload_n 0, 1) := by decide +kernel
theorem dX10_strike_15 : decode cX10_strike 15 = .ok (.getfield 156, 3) := by decide +kernel
theorem dX10_strike_18 : decode cX10_strike 18 = .ok (.iload_n 1, 1) := by decide +kernel
theorem dX10_strike_19 : decode cX10_strike 19 = .ok (.iaload, 1) := by decide +kernel
theorem dX10_strike_20 : decode cX10_strike 20 = .ok (.iconst (-1), 1) := by decide +kernel
theorem dX10_strike_21 : decode cX10_strike 21 = .ok (.if_icmp .eq 5, 3) := by decide +kernel
theorem dX10_strike_24 : decode cX10_strike 24 = .ok (.iconst 0, 1) := by decide +kernel
theorem dX10_strike_25 : decode cX10_strike 25 = .ok (.ireturn, 1) := by decide +kernel
theorem dX10_strike_26 : decode cX10_strike 26 = .ok (.aload_n 0, 1) := by decide +kernel
theorem dX10_strike_27 : decode cX10_strike 27 = .ok (.getfield 156, 3) := by decide +kernel
theorem dX10_strike_30 : decode cX10_strike 30 = .ok (.iload_n 1, 1) := by decide +kernel
theorem dX10_strike_31 : decode cX10_strike 31 = .ok (.aload_n 0, 1) := by decide +kernel
theorem dX10_strike_32 : decode cX10_strike 32 = .ok (.getfield 232, 3) := by decide +kernel
theorem dX10_strike_35 : decode cX10_strike 35 = .ok (.iastore, 1) := by decide +kernel
theorem dX10_strike_36 : decode cX10_strike 36 = .ok (.iconst 1, 1) := by decide +kernel
theorem dX10_strike_37 : decode cX10_strike 37 = .ok (.ireturn, 1) := by decide +kernel
theorem dX10_seize_0 : decode cX10_seize 0 = .ok (.aload_n 0, 1) := by decide +kernel
theorem dX10_seize_1 : decode cX10_seize 1 = .ok (.iload_n 1, 1) := by decide +kernel
theorem dX10_seize_2 : decode cX10_seize 2 = .ok (.invokevirtual 370, 3) := by decide +kernel
theorem dX10_seize_5 : decode cX10_seize 5 = .ok (.ifCond .eq 24, 3) := by decide +kernel
theorem dX10_seize_8 : decode cX10_seize 8 = .ok (.aload_n 0, 1) := by decide +kernel
theorem dX10_seize_9 : decode cX10_seize 9 = .ok (.getfield 117, 3) := by decide +kernel
theorem dX10_seize_12 : decode cX10_seize 12 = .ok (.iload_n 1, 1) := by decide +kernel
theorem dX10_seize_13 : decode cX10_seize 13 = .ok (.iaload, 1) := by decide +kernel
theorem dX10_seize_14 : decode cX10_seize 14 = .ok (.iconst (-1), 1) := by decide +kernel
theorem dX10_seize_15 : decode cX10_seize 15 = .ok (.if_icmp .ne 14, 3) := by decide +kernel
theorem dX10_seize_18 : decode cX10_seize 18 = .ok (.iload_n 2, 1) := by decide +kernel
theorem dX10_seize_19 : decode cX10_seize 19 = .ok (.iconst 1, 1) := by decide +kernel
theorem dX10_seize_20 : decode cX10_seize 20 = .ok (.sipush 9999, 3) := by decide +kernel
theorem dX10_seize_23 : decode cX10_seize 23 = .ok (.invokestatic 228, 3) := by decide +kernel
theorem dX10_seize_26 : decode cX10_seize 26 = .ok (.ifCond .ne 7, 3) := by decide +kernel
theorem dX10_seize_29 : decode cX10_seize 29 = .ok (.ldc_w 357, 3) := by decide +kernel
theorem dX10_seize_32 : decode cX10_seize 32 = .ok (.ireturn, 1) := by decide +kernel
theorem dX10_seize_33 : decode cX10_seize 33 = .ok (.aload_n 0, 1) := by decide +kernel
theorem dX10_seize_34 : decode cX10_seize 34 = .ok (.iload_n 1, 1) := by decide +kernel
theorem dX10_seize_35 : decode cX10_seize 35 = .ok (.aload_n 0, 1) := by decide +kernel
theorem dX10_seize_36 : decode cX10_seize 36 = .ok (.getfield 232, 3) := by decide +kernel
theorem dX10_seize_39 : decode cX10_seize 39 = .ok (.aload_n 0, 1) := by decide +kernel
theorem dX10_seize_40 : decode cX10_seize 40 = .ok (.getfield 232, 3) := by decide +kernel
theorem dX10_seize_43 : decode cX10_seize 43 = .ok (.invokevirtual 416, 3) := by decide +kernel
theorem dX10_seize_46 : decode cX10_seize 46 = .ok (.aload_n 0, 1) := by decide +kernel
theorem dX10_seize_47 : decode cX10_seize 47 = .ok (.getfield 410, 3) := by decide +kernel
theorem dX10_seize_50 : decode cX10_seize 50 = .ok (.iconst 5, 1) := by decide +kernel
theorem dX10_seize_51 : decode cX10_seize 51 = .ok (.bipush 6, 2) := by decide +kernel
theorem dX10_seize_53 : decode cX10_seize 53 = .ok (.invokestatic 228, 3) := by decide +kernel
theorem dX10_seize_56 : decode cX10_seize 56 = .ok (.ifCond .ne 7, 3) := by decide +kernel
theorem dX10_seize_59 : decode cX10_seize 59 = .ok (.ldc_w 357, 3) := by decide +kernel
theorem dX10_seize_62 : decode cX10_seize 62 = .ok (.ireturn, 1) := by decide +kernel
theorem dX10_seize_63 : decode cX10_seize 63 = .ok (.aload_n 0, 1) := by decide +kernel
theorem dX10_seize_64 : decode cX10_seize 64 = .ok (.getfield 117, 3) := by decide +kernel
theorem dX10_seize_67 : decode cX10_seize 67 = .ok (.iload_n 1, 1) := by decide +kernel
theorem dX10_seize_68 : decode cX10_seize 68 = .ok (.aload_n 0, 1) := by decide +kernel
theorem dX10_seize_69 : decode cX10_seize 69 = .ok (.getfield 232, 3) := by decide +kernel
theorem dX10_seize_72 : decode cX10_seize 72 = .ok (.iastore, 1) := by decide +kernel
theorem dX10_seize_73 : decode cX10_seize 73 = .ok (.aload_n 0, 1) := by decide +kernel
theorem dX10_seize_74 : decode cX10_seize 74 = .ok (.getfield 138, 3) := by decide +kernel
theorem dX10_seize_77 : decode cX10_seize 77 = .ok (.iload_n 1, 1) := by decide +kernel
theorem dX10_seize_78 : decode cX10_seize 78 = .ok (.iload_n 2, 1) := by decide +kernel
theorem dX10_seize_79 : decode cX10_seize 79 = .ok (.iastore, 1) := by decide +kernel
theorem dX10_seize_80 : decode cX10_seize 80 = .ok (.aload_n 0, 1) := by decide +kernel
theorem dX10_seize_81 : decode cX10_seize 81 = .ok (.iload_n 1, 1) := by decide +kernel
theorem dX10_seize_82 : decode cX10_seize 82 = .ok (.aload_n 0, 1) := by decide +kernel
theorem dX10_seize_83 : decode cX10_seize 83 = .ok (.getfield 232, 3) := by decide +kernel
theorem dX10_seize_86 : decode cX10_seize 86 = .ok (.aload_n 0, 1) := by decide +kernel
theorem dX10_seize_87 : decode cX10_seize 87 = .ok (.getfield 232, 3) := by decide +kernel
theorem dX10_seize_90 : decode cX10_seize 90 = .ok (.invokevirtual 416, 3) := by decide +kernel
theorem dX10_seize_93 : decode cX10_seize 93 = .ok (.aload_n 0, 1) := by decide +kernel
theorem dX10_seize_94 : decode cX10_seize 94 = .ok (.getfield 404, 3) := by decide +kernel
theorem dX10_seize_97 : decode cX10_seize 97 = .ok (.ifCond .le 11, 3) := by decide +kernel
theorem dX10_seize_100 : decode cX10_seize 100 = .ok (.aload_n 0, 1) := by decide +kernel
theorem dX10_seize_101 : decode cX10_seize 101 = .ok (.getfield 404, 3) := by decide +kernel
theorem dX10_seize_104 : decode cX10_seize 104 = .ok (.ineg, 1) := by decide +kernel
theorem dX10_seize_105 : decode cX10_seize 105 = .ok (.goto 7, 3) := by decide +kernel
theorem dX10_seize_108 : decode cX10_seize 108 = .ok (.aload_n 0, 1) := by decide +kernel
theorem dX10_seize_109 : decode cX10_seize 109 = .ok (.getfield 401, 3) := by decide +kernel
theorem dX10_seize_112 : decode cX10_seize 112 = .ok (.ireturn, 1) := by decide +kernel
theorem dX10_gaol_0 : decode cX10_gaol 0 = .ok (.aload_n 0, 1) := by decide +kernel
theorem dX10_gaol_1 : decode cX10_gaol 1 = .ok (.iload_n 1, 1) := by decide +kernel
theorem dX10_gaol_2 : decode cX10_gaol 2 = .ok (.invokevirtual 370, 3) := by decide +kernel
theorem dX10_gaol_5 : decode cX10_gaol 5 = .ok (.ifCond .eq 27, 3) := by decide +kernel
theorem dX10_gaol_8 : decode cX10_gaol 8 = .ok (.aload_n 0, 1) := by decide +kernel
theorem dX10_gaol_9 : decode cX10_gaol 9 = .ok (.getfield 117, 3) := by decide +kernel
theorem dX10_gaol_12 : decode cX10_gaol 12 = .ok (.iload_n 1, 1) := by decide +kernel
theorem dX10_gaol_13 : decode cX10_gaol 13 = .ok (.iaload, 1) := by decide +kernel
theorem dX10_gaol_14 : decode cX10_gaol 14 = .ok (.iconst (-1), 1) := by decide +kernel
theorem dX10_gaol_15 : decode cX10_gaol 15 = .ok (.if_icmp .eq 17, 3) := by decide +kernel
theorem dX10_gaol_18 : decode cX10_gaol 18 = .ok (.aload_n 0, 1) := by decide +kernel
theorem dX10_gaol_19 : decode cX10_gaol 19 = .ok (.getfield 56, 3) := by decide +kernel
theorem dX10_gaol_22 : decode cX10_gaol 22 = .ok (.aload_n 0, 1) := by decide +kernel
theorem dX10_gaol_23 : decode cX10_gaol 23 = .ok (.getfield 84, 3) := by decide +kernel
theorem dX10_gaol_26 : decode cX10_gaol 26 = .ok (.iload_n 1, 1) := by decide +kernel
theorem dX10_gaol_27 : decode cX10_gaol 27 = .ok (.iaload, 1) := by decide +kernel
theorem dX10_gaol_28 : decode cX10_gaol 28 = .ok (.baload, 1) := by decide +kernel
theorem dX10_gaol_29 : decode cX10_gaol 29 = .ok (.ifCond .eq 5, 3) := by decide +kernel
theorem dX10_gaol_32 : decode cX10_gaol 32 = .ok (.iconst (-1), 1) := by decide +kernel
theorem dX10_gaol_33 : decode cX10_gaol 33 = .ok (.ireturn, 1) := by decide +kernel
theorem dX10_gaol_34 : decode cX10_gaol 34 = .ok (.aload_n 0, 1) := by decide +kernel
theorem dX10_gaol_35 : decode cX10_gaol 35 = .ok (.iload_n 1, 1) := by decide +kernel
theorem dX10_gaol_36 : decode cX10_gaol 36 = .ok (.aload_n 0, 1) := by decide +kernel
theorem dX10_gaol_37 : decode cX10_gaol 37 = .ok (.getfield 232, 3) := by decide +kernel
theorem dX10_gaol_40 : decode cX10_gaol 40 = .ok (.aload_n 0, 1) := by decide +kernel
theorem dX10_gaol_41 : decode cX10_gaol 41 = .ok (.getfield 232, 3) := by decide +kernel
theorem dX10_gaol_44 : decode cX10_gaol 44 = .ok (.invokevirtual 416, 3) := by decide +kernel
theorem dX10_gaol_47 : decode cX10_gaol 47 = .ok (.aload_n 0, 1) := by decide +kernel
theorem dX10_gaol_48 : decode cX10_gaol 48 = .ok (.getfield 410, 3) := by decide +kernel
theorem dX10_gaol_51 : decode cX10_gaol 51 = .ok (.bipush 6, 2) := by decide +kernel
theorem dX10_gaol_53 : decode cX10_gaol 53 = .ok (.if_icmp .eq 5, 3) := by decide +kernel
theorem dX10_gaol_56 : decode cX10_gaol 56 = .ok (.iconst (-1), 1) := by decide +kernel
theorem dX10_gaol_57 : decode cX10_gaol 57 = .ok (.ireturn, 1) := by decide +kernel
theorem dX10_gaol_58 : decode cX10_gaol 58 = .ok (.aload_n 0, 1) := by decide +kernel
theorem dX10_gaol_59 : decode cX10_gaol 59 = .ok (.getfield 401, 3) := by decide +kernel
theorem dX10_gaol_62 : decode cX10_gaol 62 = .ok (.bipush 11, 2) := by decide +kernel
theorem dX10_gaol_64 : decode cX10_gaol 64 = .ok (.iadd, 1) := by decide +kernel
theorem dX10_gaol_65 : decode cX10_gaol 65 = .ok (.bipush 12, 2) := by decide +kernel
theorem dX10_gaol_67 : decode cX10_gaol 67 = .ok (.idiv, 1) := by decide +kernel
theorem dX10_gaol_68 : decode cX10_gaol 68 = .ok (.aload_n 0, 1) := by decide +kernel
theorem dX10_gaol_69 : decode cX10_gaol 69 = .ok (.aload_n 0, 1) := by decide +kernel
theorem dX10_gaol_70 : decode cX10_gaol 70 = .ok (.getfield 102, 3) := by decide +kernel
theorem dX10_gaol_73 : decode cX10_gaol 73 = .ok (.iload_n 1, 1) := by decide +kernel
theorem dX10_gaol_74 : decode cX10_gaol 74 = .ok (.iaload, 1) := by decide +kernel
theorem dX10_gaol_75 : decode cX10_gaol 75 = .ok (.bipush 6, 2) := by decide +kernel
theorem dX10_gaol_77 : decode cX10_gaol 77 = .ok (.invokevirtual 333, 3) := by decide +kernel
theorem dX10_gaol_80 : decode cX10_gaol 80 = .ok (.imul, 1) := by decide +kernel
theorem dX10_gaol_81 : decode cX10_gaol 81 = .ok (.istore_n 2, 1) := by decide +kernel
theorem dX10_gaol_82 : decode cX10_gaol 82 = .ok (.aload_n 0, 1) := by decide +kernel
theorem dX10_gaol_83 : decode cX10_gaol 83 = .ok (.getfield 120, 3) := by decide +kernel
theorem dX10_gaol_86 : decode cX10_gaol 86 = .ok (.iload_n 1, 1) := by decide +kernel
theorem dX10_gaol_87 : decode cX10_gaol 87 = .ok (.aload_n 0, 1) := by decide +kernel
theorem dX10_gaol_88 : decode cX10_gaol 88 = .ok (.getfield 232, 3) := by decide +kernel
theorem dX10_gaol_91 : decode cX10_gaol 91 = .ok (.iastore, 1) := by decide +kernel
theorem dX10_gaol_92 : decode cX10_gaol 92 = .ok (.iload_n 2, 1) := by decide +kernel
theorem dX10_gaol_93 : decode cX10_gaol 93 = .ok (.aload_n 0, 1) := by decide +kernel
theorem dX10_gaol_94 : decode cX10_gaol 94 = .ok (.aload_n 0, 1) := by decide +kernel
theorem dX10_gaol_95 : decode cX10_gaol 95 = .ok (.getfield 102, 3) := by decide +kernel
theorem dX10_gaol_98 : decode cX10_gaol 98 = .ok (.iload_n 1, 1) := by decide +kernel
theorem dX10_gaol_99 : decode cX10_gaol 99 = .ok (.iaload, 1) := by decide +kernel
theorem dX10_gaol_100 : decode cX10_gaol 100 = .ok (.bipush 7, 2) := by decide +kernel
theorem dX10_gaol_102 : decode cX10_gaol 102 = .ok (.invokevirtual 333, 3) := by decide +kernel
theorem dX10_gaol_105 : decode cX10_gaol 105 = .ok (.if_icmp .ge 7, 3) := by decide +kernel
theorem dX10_gaol_108 : decode cX10_gaol 108 = .ok (.iload_n 2, 1) := by decide +kernel
theorem dX10_gaol_109 : decode cX10_gaol 109 = .ok (.goto 15, 3) := by decide +kernel
theorem dX10_gaol_112 : decode cX10_gaol 112 = .ok (.aload_n 0, 1) := by decide +kernel
theorem dX10_gaol_113 : decode cX10_gaol 113 = .ok (.aload_n 0, 1) := by decide +kernel
theorem dX10_gaol_114 : decode cX10_gaol 114 = .ok (.getfield 102, 3) := by decide +kernel
theorem dX10_gaol_117 : decode cX10_gaol 117 = .ok (.iload_n 1, 1) := by decide +kernel
theorem dX10_gaol_118 : decode cX10_gaol 118 = .ok (.iaload, 1) := by decide +kernel
theorem dX10_gaol_119 : decode cX10_gaol 119 = .ok (.bipush 7, 2) := by decide +kernel
theorem dX10_gaol_121 : decode cX10_gaol 121 = .ok (.invokevirtual 333, 3) := by decide +kernel
theorem dX10_gaol_124 : decode cX10_gaol 124 = .ok (.ireturn, 1) := by decide +kernel
theorem dX10_claim_0 : decode cX10_claim 0 = .ok (.aload_n 0, 1) := by decide +kernel
theorem dX10_claim_1 : decode cX10_claim 1 = .ok (.iload_n 1, 1) := by decide +kernel
theorem dX10_claim_2 : decode cX10_claim 2 = .ok (.invokevirtual 370, 3) := by decide +kernel
theorem dX10_claim_5 : decode cX10_claim 5 = .ok (.ifCond .ne 5, 3) := by decide +kernel
theorem dX10_claim_8 : decode cX10_claim 8 = .ok (.iconst (-1), 1) := by decide +kernel
theorem dX10_claim_9 : decode cX10_claim 9 = .ok (.ireturn, 1) := by decide +kernel
theorem dX10_claim_10 : decode cX10_claim 10 = .ok (.iload_n 2, 1) := by decide +kernel
theorem dX10_claim_11 : decode cX10_claim 11 = .ok (.tableswitch 171 0 13 #[69, 76, 83, 90, 97, 104, 111, 111, 111, 125, 132, 139, 146, 155], 69) := by decide +kernel
theorem dX10_claim_80 : decode cX10_claim 80 = .ok (.aload_n 0, 1) := by decide +kernel
theorem dX10_claim_81 : decode cX10_claim 81 = .ok (.getfield 81, 3) := by decide +kernel
theorem dX10_claim_84 : decode cX10_claim 84 = .ok (.iload_n 1, 1) := by decide +kernel
theorem dX10_claim_85 : decode cX10_claim 85 = .ok (.iaload, 1) := by decide +kernel
theorem dX10_claim_86 : decode cX10_claim 86 = .ok (.ireturn, 1) := by decide +kernel
theorem dX10_claim_87 : decode cX10_claim 87 = .ok (.aload_n 0, 1) := by decide +kernel
theorem dX10_claim_88 : decode cX10_claim 88 = .ok (.getfield 84, 3) := by decide +kernel
theorem dX10_claim_91 : decode cX10_claim 91 = .ok (.iload_n 1, 1) := by decide +kernel
theorem dX10_claim_92 : decode cX10_claim 92 = .ok (.iaload, 1) := by decide +kernel
theorem dX10_claim_93 : decode cX10_claim 93 = .ok (.ireturn, 1) := by decide +kernel
theorem dX10_claim_94 : decode cX10_claim 94 = .ok (.aload_n 0, 1) := by decide +kernel
theorem dX10_claim_95 : decode cX10_claim 95 = .ok (.getfield 87, 3) := by decide +kernel
theorem dX10_claim_98 : decode cX10_claim 98 = .ok (.iload_n 1, 1) := by decide +kernel
theorem dX10_claim_99 : decode cX10_claim 99 = .ok (.iaload, 1) := by decide +kernel
theorem dX10_claim_100 : decode cX10_claim 100 = .ok (.ireturn, 1) := by decide +kernel
theorem dX10_claim_101 : decode cX10_claim 101 = .ok (.aload_n 0, 1) := by decide +kernel
theorem dX10_claim_102 : decode cX10_claim 102 = .ok (.getfield 99, 3) := by decide +kernel
theorem dX10_claim_105 : decode cX10_claim 105 = .ok (.iload_n 1, 1) := by decide +kernel
theorem dX10_claim_106 : decode cX10_claim 106 = .ok (.iaload, 1) := by decide +kernel
theorem dX10_claim_107 : decode cX10_claim 107 = .ok (.ireturn, 1) := by decide +kernel
theorem dX10_claim_108 : decode cX10_claim 108 = .ok (.aload_n 0, 1) := by decide +kernel
theorem dX10_claim_109 : decode cX10_claim 109 = .ok (.getfield 105, 3) := by decide +kernel
theorem dX10_claim_112 : decode cX10_claim 112 = .ok (.iload_n 1, 1) := by decide +kernel
theorem dX10_claim_113 : decode cX10_claim 113 = .ok (.iaload, 1) := by decide +kernel
theorem dX10_claim_114 : decode cX10_claim 114 = .ok (.ireturn, 1) := by decide +kernel
theorem dX10_claim_115 : decode cX10_claim 115 = .ok (.aload_n 0, 1) := by decide +kernel
theorem dX10_claim_116 : decode cX10_claim 116 = .ok (.getfield 123, 3) := by decide +kernel
theorem dX10_claim_119 : decode cX10_claim 119 = .ok (.iload_n 1, 1) := by decide +kernel
theorem dX10_claim_120 : decode cX10_claim 120 = .ok (.iaload, 1) := by decide +kernel
theorem dX10_claim_121 : decode cX10_claim 121 = .ok (.ireturn, 1) := by decide +kernel
theorem dX10_claim_122 : decode cX10_claim 122 = .ok (.aload_n 0, 1) := by decide +kernel
theorem dX10_claim_123 : decode cX10_claim 123 = .ok (.getfield 126, 3) := by decide +kernel
theorem dX10_claim_126 : decode cX10_claim 126 = .ok (.iconst 3, 1) := by decide +kernel
theorem dX10_claim_127 : decode cX10_claim 127 = .ok (.iload_n 1, 1) := by decide +kernel
theorem dX10_claim_128 : decode cX10_claim 128 = .ok (.imul, 1) := by decide +kernel
theorem dX10_claim_129 : decode cX10_claim 129 = .ok (.iload_n 2, 1) := by decide +kernel
theorem dX10_claim_130 : decode cX10_claim 130 = .ok (.iadd, 1) := by decide +kernel
theorem dX10_claim_131 : decode cX10_claim 131 = .ok (.bipush 6, 2) := by decide +kernel
theorem dX10_claim_133 : decode cX10_claim 133 = .ok (.isub, 1) := by decide +kernel
theorem dX10_claim_134 : decode cX10_claim 134 = .ok (.iaload, 1) := by decide +kernel
theorem dX10_claim_135 : decode cX10_claim 135 = .ok (.ireturn, 1) := by decide +kernel
theorem dX10_claim_136 : decode cX10_claim 136 = .ok (.aload_n 0, 1) := by decide +kernel
theorem dX10_claim_137 : decode cX10_claim 137 = .ok (.getfield 114, 3) := by decide +kernel
theorem dX10_claim_140 : decode cX10_claim 140 = .ok (.iload_n 1, 1) := by decide +kernel
theorem dX10_claim_141 : decode cX10_claim 141 = .ok (.iaload, 1) := by decide +kernel
theorem dX10_claim_142 : decode cX10_claim 142 = .ok (.ireturn, 1) := by decide +kernel
theorem dX10_claim_143 : decode cX10_claim 143 = .ok (.aload_n 0, 1) := by decide +kernel
theorem dX10_claim_144 : decode cX10_claim 144 = .ok (.getfield 132, 3) := by decide +kernel
theorem dX10_claim_147 : decode cX10_claim 147 = .ok (.iload_n 1, 1) := by decide +kernel
theorem dX10_claim_148 : decode cX10_claim 148 = .ok (.iaload, 1) := by decide +kernel
theorem dX10_claim_149 : decode cX10_claim 149 = .ok (.ireturn, 1) := by decide +kernel
theorem dX10_claim_150 : decode cX10_claim 150 = .ok (.aload_n 0, 1) := by decide +kernel
theorem dX10_claim_151 : decode cX10_claim 151 = .ok (.getfield 135, 3) := by decide +kernel
theorem dX10_claim_154 : decode cX10_claim 154 = .ok (.iload_n 1, 1) := by decide +kernel
theorem dX10_claim_155 : decode cX10_claim 155 = .ok (.iaload, 1) := by decide +kernel
theorem dX10_claim_156 : decode cX10_claim 156 = .ok (.ireturn, 1) := by decide +kernel
theorem dX10_claim_157 : decode cX10_claim 157 = .ok (.aload_n 0, 1) := by decide +kernel
theorem dX10_claim_158 : decode cX10_claim 158 = .ok (.getfield 102, 3) := by decide +kernel
theorem dX10_claim_161 : decode cX10_claim 161 = .ok (.iload_n 1, 1) := by decide +kernel
theorem dX10_claim_162 : decode cX10_claim 162 = .ok (.iaload, 1) := by decide +kernel
theorem dX10_claim_163 : decode cX10_claim 163 = .ok (.iconst 1, 1) := by decide +kernel
theorem dX10_claim_164 : decode cX10_claim 164 = .ok (.isub, 1) := by decide +kernel
theorem dX10_claim_165 : decode cX10_claim 165 = .ok (.ireturn, 1) := by decide +kernel
theorem dX10_claim_166 : decode cX10_claim 166 = .ok (.aload_n 0, 1) := by decide +kernel
theorem dX10_claim_167 : decode cX10_claim 167 = .ok (.getfield 117, 3) := by decide +kernel
theorem dX10_claim_170 : decode cX10_claim 170 = .ok (.iload_n 1, 1) := by decide +kernel
theorem dX10_claim_171 : decode cX10_claim 171 = .ok (.iaload, 1) := by decide +kernel
theorem dX10_claim_172 : decode cX10_claim 172 = .ok (.iconst (-1), 1) := by decide +kernel
theorem dX10_claim_173 : decode cX10_claim 173 = .ok (.if_icmp .ne 7, 3) := by decide +kernel
theorem dX10_claim_176 : decode cX10_claim 176 = .ok (.iconst 0, 1) := by decide +kernel
theorem dX10_claim_177 : decode cX10_claim 177 = .ok (.goto 4, 3) := by decide +kernel
theorem dX10_claim_180 : decode cX10_claim 180 = .ok (.iconst 1, 1) := by decide +kernel
theorem dX10_claim_181 : decode cX10_claim 181 = .ok (.ireturn, 1) := by decide +kernel
theorem dX10_claim_182 : decode cX10_claim 182 = .ok (.iconst (-1), 1) := by decide +kernel
theorem dX10_claim_183 : decode cX10_claim 183 = .ok (.ireturn, 1) := by decide +kernel
theorem dX10_state_0 : decode cX10_state 0 = .ok (.aload_n 0, 1) := by decide +kernel
theorem dX10_state_1 : decode cX10_state 1 = .ok (.iload_n 1, 1) := by decide +kernel
theorem dX10_state_2 : decode cX10_state 2 = .ok (.invokevirtual 370, 3) := by decide +kernel
theorem dX10_state_5 : decode cX10_state 5 = .ok (.ifCond .eq 35, 3) := by decide +kernel
theorem dX10_state_8 : decode cX10_state 8 = .ok (.iload_n 2, 1) := by decide +kernel
theorem dX10_state_9 : decode cX10_state 9 = .ok (.aload_n 0, 1) := by decide +kernel
theorem dX10_state_10 : decode cX10_state 10 = .ok (.getfield 99, 3) := by decide +kernel
theorem dX10_state_13 : decode cX10_state 13 = .ok (.iload_n 1, 1) := by decide +kernel
theorem dX10_state_14 : decode cX10_state 14 = .ok (.iaload, 1) := by decide +kernel
theorem dX10_state_15 : decode cX10_state 15 = .ok (.sipush 7999, 3) := by decide +kernel
theorem dX10_state_18 : decode cX10_state 18 = .ok (.invokestatic 228, 3) := by decide +kernel
theorem dX10_state_21 : decode cX10_state 21 = .ok (.ifCond .eq 19, 3) := by decide +kernel
theorem dX10_state_24 : decode cX10_state 24 = .ok (.iload_n 3, 1) := by decide +kernel
theorem dX10_state_25 : decode cX10_state 25 = .ok (.aload_n 0, 1) := by decide +kernel
theorem dX10_state_26 : decode cX10_state 26 = .ok (.getfield 99, 3) := by decide +kernel
theorem dX10_state_29 : decode cX10_state 29 = .ok (.iload_n 1, 1) := by decide +kernel
theorem dX10_state_30 : decode cX10_state 30 = .ok (.iaload, 1) := by decide +kernel
theorem dX10_state_31 : decode cX10_state 31 = .ok (.sipush 7999, 3) := by decide +kernel
theorem dX10_state_34 : decode cX10_state 34 = .ok (.invokestatic 228, 3) := by decide +kernel
theorem dX10_state_37 : decode cX10_state 37 = .ok (.ifCond .ne 5, 3) := by decide +kernel
theorem dX10_state_40 : decode cX10_state 40 = .ok (.iconst (-1), 1) := by decide +kernel
theorem dX10_state_41 : decode cX10_state 41 = .ok (.ireturn, 1) := by decide +kernel
theorem dX10_state_42 : decode cX10_state 42 = .ok (.aload_n 0, 1) := by decide +kernel
theorem dX10_state_43 : decode cX10_state 43 = .ok (.iload_n 1, 1) := by decide +kernel
theorem dX10_state_44 : decode cX10_state 44 = .ok (.iload_n 2, 1) := by decide +kernel
theorem dX10_state_45 : decode cX10_state 45 = .ok (.iload_n 3, 1) := by decide +kernel
theorem dX10_state_46 : decode cX10_state 46 = .ok (.invokevirtual 416, 3) := by decide +kernel
theorem dX10_state_49 : decode cX10_state 49 = .ok (.iload 4, 2) := by decide +kernel
theorem dX10_state_51 : decode cX10_state 51 = .ok (.tableswitch 58 0 4 #[33, 38, 43, 48, 53], 33) := by decide +kernel
theorem dX10_state_84 : decode cX10_state 84 = .ok (.aload_n 0, 1) := by decide +kernel
theorem dX10_state_85 : decode cX10_state 85 = .ok (.getfield 410, 3) := by decide +kernel
theorem dX10_state_88 : decode cX10_state 88 = .ok (.ireturn, 1) := by decide +kernel
theorem dX10_state_89 : decode cX10_state 89 = .ok (.aload_n 0, 1) := by decide +kernel
theorem dX10_state_90 : decode cX10_state 90 = .ok (.getfield 401, 3) := by decide +kernel
theorem dX10_state_93 : decode cX10_state 93 = .ok (.ireturn, 1) := by decide +kernel
theorem dX10_state_94 : decode cX10_state 94 = .ok (.aload_n 0, 1) := by decide +kernel
theorem dX10_state_95 : decode cX10_state 95 = .ok (.getfield 407, 3) := by decide +kernel
theorem dX10_state_98 : decode cX10_state 98 = .ok (.ireturn, 1) := by decide +kernel
theorem dX10_state_99 : decode cX10_state 99 = .ok (.aload_n 0, 1) := by decide +kernel
theorem dX10_state_100 : decode cX10_state 100 = .ok (.getfield 398, 3) := by decide +kernel
theorem dX10_state_103 : decode cX10_state 103 = .ok (.ireturn, 1) := by decide +kernel
theorem dX10_state_104 : decode cX10_state 104 = .ok (.aload_n 0, 1) := by decide +kernel
theorem dX10_state_105 : decode cX10_state 105 = .ok (.getfield 404, 3) := by decide +kernel
theorem dX10_state_108 : decode cX10_state 108 = .ok (.ireturn, 1) := by decide +kernel
theorem dX10_state_109 : decode cX10_state 109 = .ok (.iconst (-1), 1) := by decide +kernel
theorem dX10_state_110 : decode cX10_state 110 = .ok (.ireturn, 1) := by decide +kernel
theorem dX10_weeksOf_0 : decode cX10_weeksOf 0 = .ok (.aload_n 0, 1) := by decide +kernel
theorem dX10_weeksOf_1 : decode cX10_weeksOf 1 = .ok (.getfield 177, 3) := by decide +kernel
theorem dX10_weeksOf_4 : decode cX10_weeksOf 4 = .ok (.iload_n 1, 1) := by decide +kernel
theorem dX10_weeksOf_5 : decode cX10_weeksOf 5 = .ok (.iaload, 1) := by decide +kernel
theorem dX10_weeksOf_6 : decode cX10_weeksOf 6 = .ok (.iload_n 2, 1) := by decide +kernel
theorem dX10_weeksOf_7 : decode cX10_weeksOf 7 = .ok (.iload_n 3, 1) := by decide +kernel
theorem dX10_weeksOf_8 : decode cX10_weeksOf 8 = .ok (.imul, 1) := by decide +kernel
theorem dX10_weeksOf_9 : decode cX10_weeksOf 9 = .ok (.iadd, 1) := by decide +kernel
theorem dX10_weeksOf_10 : decode cX10_weeksOf 10 = .ok (.istore 4, 2) := by decide +kernel
theorem dX10_weeksOf_12 : decode cX10_weeksOf 12 = .ok (.aload_n 0, 1) := by decide +kernel
theorem dX10_weeksOf_13 : decode cX10_weeksOf 13 = .ok (.getfield 174, 3) := by decide +kernel
theorem dX10_weeksOf_16 : decode cX10_weeksOf 16 = .ok (.iload_n 1, 1) := by decide +kernel
theorem dX10_weeksOf_17 : decode cX10_weeksOf 17 = .ok (.iaload, 1) := by decide +kernel
theorem dX10_weeksOf_18 : decode cX10_weeksOf 18 = .ok (.iload 4, 2) := by decide +kernel
theorem dX10_weeksOf_20 : decode cX10_weeksOf 20 = .ok (.iadd, 1) := by decide +kernel
theorem dX10_weeksOf_21 : decode cX10_weeksOf 21 = .ok (.iconst 1, 1) := by decide +kernel
theorem dX10_weeksOf_22 : decode cX10_weeksOf 22 = .ok (.isub, 1) := by decide +kernel
theorem dX10_weeksOf_23 : decode cX10_weeksOf 23 = .ok (.iload 4, 2) := by decide +kernel
theorem dX10_weeksOf_25 : decode cX10_weeksOf 25 = .ok (.idiv, 1) := by decide +kernel
theorem dX10_weeksOf_26 : decode cX10_weeksOf 26 = .ok (.ireturn, 1) := by decide +kernel
theorem dX10_plan_0 : decode cX10_plan 0 = .ok (.aload_n 0, 1) := by decide +kernel
theorem dX10_plan_1 : decode cX10_plan 1 = .ok (.iload_n 1, 1) := by decide +kernel
theorem dX10_plan_2 : decode cX10_plan 2 = .ok (.invokevirtual 348, 3) := by decide +kernel
theorem dX10_plan_5 : decode cX10_plan 5 = .ok (.ifCond .eq 13, 3) := by decide +kernel
theorem dX10_plan_8 : decode cX10_plan 8 = .ok (.iload_n 2, 1) := by decide +kernel
theorem dX10_plan_9 : decode cX10_plan 9 = .ok (.iconst 1, 1) := by decide +kernel
theorem dX10_plan_10 : decode cX10_plan 10 = .ok (.bipush 99, 2) := by decide +kernel
theorem dX10_plan_12 : decode cX10_plan 12 = .ok (.invokestatic 228, 3) := by decide +kernel
theorem dX10_plan_15 : decode cX10_plan 15 = .ok (.ifCond .ne 5, 3) := by decide +kernel
theorem dX10_plan_18 : decode cX10_plan 18 = .ok (.iconst (-1), 1) := by decide +kernel
theorem dX10_plan_19 : decode cX10_plan 19 = .ok (.ireturn, 1) := by decide +kernel
theorem dX10_plan_20 : decode cX10_plan 20 = .ok (.aload_n 0, 1) := by decide +kernel
theorem dX10_plan_21 : decode cX10_plan 21 = .ok (.iconst 0, 1) := by decide +kernel
theorem dX10_plan_22 : decode cX10_plan 22 = .ok (.putfield 428, 3) := by decide +kernel
theorem dX10_plan_25 : decode cX10_plan 25 = .ok (.iconst 0, 1) := by decide +kernel
theorem dX10_plan_26 : decode cX10_plan 26 = .ok (.istore_n 3, 1) := by decide +kernel
theorem dX10_plan_27 : decode cX10_plan 27 = .ok (.iload_n 3, 1) := by decide +kernel
theorem dX10_plan_28 : decode cX10_plan 28 = .ok (.aload_n 0, 1) := by decide +kernel
theorem dX10_plan_29 : decode cX10_plan 29 = .ok (.getfield 367, 3) := by decide +kernel
theorem dX10_plan_32 : decode cX10_plan 32 = .ok (.if_icmp .ge 123, 3) := by decide +kernel
theorem dX10_plan_35 : decode cX10_plan 35 = .ok (.aload_n 0, 1) := by decide +kernel
theorem dX10_plan_36 : decode cX10_plan 36 = .ok (.getfield 84, 3) := by decide +kernel
theorem dX10_plan_39 : decode cX10_plan 39 = .ok (.iload_n 3, 1) := by decide +kernel
theorem dX10_plan_40 : decode cX10_plan 40 = .ok (.iaload, 1) := by decide +kernel
theorem dX10_plan_41 : decode cX10_plan 41 = .ok (.iload_n 1, 1) := by decide +kernel
theorem dX10_plan_42 : decode cX10_plan 42 = .ok (.if_icmp .ne 107, 3) := by decide +kernel
theorem dX10_plan_45 : decode cX10_plan 45 = .ok (.aload_n 0, 1) := by decide +kernel
theorem dX10_plan_46 : decode cX10_plan 46 = .ok (.iload_n 3, 1) := by decide +kernel
theorem dX10_plan_47 : decode cX10_plan 47 = .ok (.invokevirtual 419, 3) := by decide +kernel
theorem dX10_plan_50 : decode cX10_plan 50 = .ok (.ifCond .ne 6, 3) := by decide +kernel
theorem dX10_plan_53 : decode cX10_plan 53 = .ok (.goto 96, 3) := by decide +kernel
theorem dX10_plan_56 : decode cX10_plan 56 = .ok (.aload_n 0, 1) := by decide +kernel
theorem dX10_plan_57 : decode cX10_plan 57 = .ok (.getfield 428, 3) := by decide +kernel
theorem dX10_plan_60 : decode cX10_plan 60 = .ok (.iconst 4, 1) := by decide +kernel
theorem dX10_plan_61 : decode cX10_plan 61 = .ok (.if_icmp .ne 5, 3) := by decide +kernel
theorem dX10_plan_64 : decode cX10_plan 64 = .ok (.iconst (-1), 1) := by decide +kernel
theorem dX10_plan_65 : decode cX10_plan 65 = .ok (.ireturn, 1) := by decide +kernel
theorem dX10_plan_66 : decode cX10_plan 66 = .ok (.aload_n 0, 1) := by decide +kernel
theorem dX10_plan_67 : decode cX10_plan 67 = .ok (.aload_n 0, 1) := by decide +kernel
theorem dX10_plan_68 : decode cX10_plan 68 = .ok (.getfield 102, 3) := by decide +kernel
theorem dX10_plan_71 : decode cX10_plan 71 = .ok (.iload_n 3, 1) := by decide +kernel
theorem dX10_plan_72 : decode cX10_plan 72 = .ok (.iaload, 1) := by decide +kernel
theorem dX10_plan_73 : decode cX10_plan 73 = .ok (.iconst 2, 1) := by decide +kernel
theorem dX10_plan_74 : decode cX10_plan 74 = .ok (.invokevirtual 333, 3) := by decide +kernel
theorem dX10_plan_77 : decode cX10_plan 77 = .ok (.istore 4, 2) := by decide +kernel
theorem dX10_plan_79 : decode cX10_plan 79 = .ok (.aload_n 0, 1) := by decide +kernel
theorem dX10_plan_80 : decode cX10_plan 80 = .ok (.getfield 171, 3) := by decide +kernel
theorem dX10_plan_83 : decode cX10_plan 83 = .ok (.aload_n 0, 1) := by decide +kernel
theorem dX10_plan_84 : decode cX10_plan 84 = .ok (.getfield 428, 3) := by decide +kernel
theorem dX10_plan_87 : decode cX10_plan 87 = .ok (.iload_n 3, 1) := by decide +kernel
theorem dX10_plan_88 : decode cX10_plan 88 = .ok (.iastore, 1) := by decide +kernel
theorem dX10_plan_89 : decode cX10_plan 89 = .ok (.aload_n 0, 1) := by decide +kernel
theorem dX10_plan_90 : decode cX10_plan 90 = .ok (.getfield 174, 3) := by decide +kernel
theorem dX10_plan_93 : decode cX10_plan 93 = .ok (.aload_n 0, 1) := by decide +kernel
theorem dX10_plan_94 : decode cX10_plan 94 = .ok (.getfield 428, 3) := by decide +kernel
theorem dX10_plan_97 : decode cX10_plan 97 = .ok (.aload_n 0, 1) := by decide +kernel
theorem dX10_plan_98 : decode cX10_plan 98 = .ok (.getfield 401, 3) := by decide +kernel
theorem dX10_plan_101 : decode cX10_plan 101 = .ok (.iastore, 1) := by decide +kernel
theorem dX10_plan_102 : decode cX10_plan 102 = .ok (.aload_n 0, 1) := by decide +kernel
theorem dX10_plan_103 : decode cX10_plan 103 = .ok (.getfield 177, 3) := by decide +kernel
theorem dX10_plan_106 : decode cX10_plan 106 = .ok (.aload_n 0, 1) := by decide +kernel
theorem dX10_plan_107 : decode cX10_plan 107 = .ok (.getfield 428, 3) := by decide +kernel
theorem dX10_plan_110 : decode cX10_plan 110 = .ok (.iload 4, 2) := by decide +kernel
theorem dX10_plan_112 : decode cX10_plan 112 = .ok (.aload_n 0, 1) := by decide +kernel
theorem dX10_plan_113 : decode cX10_plan 113 = .ok (.getfield 401, 3) := by decide +kernel
theorem dX10_plan_116 : decode cX10_plan 116 = .ok (.if_icmp .ge 8, 3) := by decide +kernel
theorem dX10_plan_119 : decode cX10_plan 119 = .ok (.iload 4, 2) := by decide +kernel
theorem dX10_plan_121 : decode cX10_plan 121 = .ok (.goto 7, 3) := by decide +kernel
theorem dX10_plan_124 : decode cX10_plan 124 = .ok (.aload_n 0, 1) := by decide +kernel
theorem dX10_plan_125 : decode cX10_plan 125 = .ok (.getfield 401, 3) := by decide +kernel
theorem dX10_plan_128 : decode cX10_plan 128 = .ok (.iastore, 1) := by decide +kernel
theorem dX10_plan_129 : decode cX10_plan 129 = .ok (.aload_n 0, 1) := by decide +kernel
theorem dX10_plan_130 : decode cX10_plan 130 = .ok (.getfield 180, 3) := by decide +kernel
theorem dX10_plan_133 : decode cX10_plan 133 = .ok (.aload_n 0, 1) := by decide +kernel
theorem dX10_plan_134 : decode cX10_plan 134 = .ok (.getfield 428, 3) := by decide +kernel
theorem dX10_plan_137 : decode cX10_plan 137 = .ok (.iconst 0, 1) := by decide +kernel
theorem dX10_plan_138 : decode cX10_plan 138 = .ok (.iastore, 1) := by decide +kernel
theorem dX10_plan_139 : decode cX10_plan 139 = .ok (.aload_n 0, 1) := by decide +kernel
theorem dX10_plan_140 : decode cX10_plan 140 = .ok (.dup, 1) := by decide +kernel
theorem dX10_plan_141 : decode cX10_plan 141 = .ok (.getfield 428, 3) := by decide +kernel
theorem dX10_plan_144 : decode cX10_plan 144 = .ok (.iconst 1, 1) := by decide +kernel
theorem dX10_plan_145 : decode cX10_plan 145 = .ok (.iadd, 1) := by decide +kernel
theorem dX10_plan_146 : decode cX10_plan 146 = .ok (.putfield 428, 3) := by decide +kernel
theorem dX10_plan_149 : decode cX10_plan 149 = .ok (.iinc 3 1, 3) := by decide +kernel
theorem dX10_plan_152 : decode cX10_plan 152 = .ok (.goto (-125), 3) := by decide +kernel
theorem dX10_plan_155 : decode cX10_plan 155 = .ok (.aload_n 0, 1) := by decide +kernel
theorem dX10_plan_156 : decode cX10_plan 156 = .ok (.iload_n 1, 1) := by decide +kernel
theorem dX10_plan_157 : decode cX10_plan 157 = .ok (.aload_n 0, 1) := by decide +kernel
theorem dX10_plan_158 : decode cX10_plan 158 = .ok (.aload_n 0, 1) := by decide +kernel
theorem dX10_plan_159 : decode cX10_plan 159 = .ok (.getfield 232, 3) := by decide +kernel
theorem dX10_plan_162 : decode cX10_plan 162 = .ok (.invokevirtual 330, 3) := by decide +kernel
theorem dX10_plan_165 : decode cX10_plan 165 = .ok (.invokevirtual 422, 3) := by decide +kernel
theorem dX10_plan_168 : decode cX10_plan 168 = .ok (.istore_n 3, 1) := by decide +kernel
theorem dX10_plan_169 : decode cX10_plan 169 = .ok (.aload_n 0, 1) := by decide +kernel
theorem dX10_plan_170 : decode cX10_plan 170 = .ok (.getfield 428, 3) := by decide +kernel
theorem dX10_plan_173 : decode cX10_plan 173 = .ok (.ifCond .ne 7, 3) := by decide +kernel
theorem dX10_plan_176 : decode cX10_plan 176 = .ok (.iconst 0, 1) := by decide +kernel
theorem dX10_plan_177 : decode cX10_plan 177 = .ok (.goto 6, 3) := by decide +kernel
theorem dX10_plan_180 : decode cX10_plan 180 = .ok (.ldc_w 431, 3) := by decide +kernel
theorem dX10_plan_183 : decode cX10_plan 183 = .ok (.istore 4, 2) := by decide +kernel
theorem dX10_plan_185 : decode cX10_plan 185 = .ok (.ldc_w 431, 3) := by decide +kernel
theorem dX10_plan_188 : decode cX10_plan 188 = .ok (.istore 5, 2) := by decide +kernel
theorem dX10_plan_190 : decode cX10_plan 190 = .ok (.aload_n 0, 1) := by decide +kernel
theorem dX10_plan_191 : decode cX10_plan 191 = .ok (.getfield 428, 3) := by decide +kernel
theorem dX10_plan_194 : decode cX10_plan 194 = .ok (.ifCond .le 7, 3) := by decide +kernel
theorem dX10_plan_197 : decode cX10_plan 197 = .ok (.iconst 1, 1) := by decide +kernel
theorem dX10_plan_198 : decode cX10_plan 198 = .ok (.goto 4, 3) := by decide +kernel
theorem dX10_plan_201 : decode cX10_plan 201 = .ok (.iconst 0, 1) := by decide +kernel
theorem dX10_plan_202 : decode cX10_plan 202 = .ok (.istore 6, 2) := by decide +kernel
theorem dX10_plan_204 : decode cX10_plan 204 = .ok (.iload 6, 2) := by decide +kernel
theorem dX10_plan_206 : decode cX10_plan 206 = .ok (.ifCond .eq 228, 3) := by decide +kernel
theorem dX10_plan_209 : decode cX10_plan 209 = .ok (.iconst 0, 1) := by decide +kernel
theorem dX10_plan_210 : decode cX10_plan 210 = .ok (.istore 7, 2) := by decide +kernel
theorem dX10_plan_212 : decode cX10_plan 212 = .ok (.iconst 0, 1) := by decide +kernel
theorem dX10_plan_213 : decode cX10_plan 213 = .ok (.istore 8, 2) := by decide +kernel
theorem dX10_plan_215 : decode cX10_plan 215 = .ok (.iconst 0, 1) := by decide +kernel
theorem dX10_plan_216 : decode cX10_plan 216 = .ok (.istore 9, 2) := by decide +kernel
theorem dX10_plan_218 : decode cX10_plan 218 = .ok (.iconst 0, 1) := by decide +kernel
theorem dX10_plan_219 : decode cX10_plan 219 = .ok (.istore 10, 2) := by decide +kernel
theorem dX10_plan_221 : decode cX10_plan 221 = .ok (.iload 10, 2) := by decide +kernel
theorem dX10_plan_223 : decode cX10_plan 223 = .ok (.aload_n 0, 1) := by decide +kernel
theorem dX10_plan_224 : decode cX10_plan 224 = .ok (.getfield 428, 3) := by decide +kernel
theorem dX10_plan_227 : decode cX10_plan 227 = .ok (.if_icmp .ge 70, 3) := by decide +kernel
theorem dX10_plan_230 : decode cX10_plan 230 = .ok (.aload_n 0, 1) := by decide +kernel
theorem dX10_plan_231 : decode cX10_plan 231 = .ok (.iload 10, 2) := by decide +kernel
theorem dX10_plan_233 : decode cX10_plan 233 = .ok (.aload_n 0, 1) := by decide +kernel
theorem dX10_plan_234 : decode cX10_plan 234 = .ok (.getfield 180, 3) := by decide +kernel
theorem dX10_plan_237 : decode cX10_plan 237 = .ok (.iload 10, 2) := by decide +kernel
theorem dX10_plan_239 : decode cX10_plan 239 = .ok (.iaload, 1) := by decide +kernel
theorem dX10_plan_240 : decode cX10_plan 240 = .ok (.iload_n 2, 1) := by decide +kernel
theorem dX10_plan_241 : decode cX10_plan 241 = .ok (.invokevirtual 432, 3) := by decide +kernel
theorem dX10_plan_244 : decode cX10_plan 244 = .ok (.istore 11, 2) := by decide +kernel
theorem dX10_plan_246 : decode cX10_plan 246 = .ok (.iload 7, 2) := by decide +kernel
theorem dX10_plan_248 : decode cX10_plan 248 = .ok (.aload_n 0, 1) := by decide +kernel
theorem dX10_plan_249 : decode cX10_plan 249 = .ok (.getfield 177, 3) := by decide +kernel
theorem dX10_plan_252 : decode cX10_plan 252 = .ok (.iload 10, 2) := by decide +kernel
theorem dX10_plan_254 : decode cX10_plan 254 = .ok (.iaload, 1) := by decide +kernel
theorem dX10_plan_255 : decode cX10_plan 255 = .ok (.aload_n 0, 1) := by decide +kernel
theorem dX10_plan_256 : decode cX10_plan 256 = .ok (.getfield 180, 3) := by decide +kernel
theorem dX10_plan_259 : decode cX10_plan 259 = .ok (.iload 10, 2) := by decide +kernel
theorem dX10_plan_261 : decode cX10_plan 261 = .ok (.iaload, 1) := by decide +kernel
theorem dX10_plan_262 : decode cX10_plan 262 = .ok (.iload_n 2, 1) := by decide +kernel
theorem dX10_plan_263 : decode cX10_plan 263 = .ok (.imul, 1) := by decide +kernel
theorem dX10_plan_264 : decode cX10_plan 264 = .ok (.iadd, 1) := by decide +kernel
theorem dX10_plan_265 : decode cX10_plan 265 = .ok (.iadd, 1) := by decide +kernel
theorem dX10_plan_266 : decode cX10_plan 266 = .ok (.istore 7, 2) := by decide +kernel
theorem dX10_plan_268 : decode cX10_plan 268 = .ok (.iload 11, 2) := by decide +kernel
theorem dX10_plan_270 : decode cX10_plan 270 = .ok (.iload 8, 2) := by decide +kernel
theorem dX10_plan_272 : decode cX10_plan 272 = .ok (.if_icmp .le 8, 3) := by decide +kernel
theorem dX10_plan_275 : decode cX10_plan 275 = .ok (.iload 11, 2) := by decide +kernel
theorem dX10_plan_277 : decode cX10_plan 277 = .ok (.goto 5, 3) := by decide +kernel
theorem dX10_plan_280 : decode cX10_plan 280 = .ok (.iload 8, 2) := by decide +kernel
theorem dX10_plan_282 : decode cX10_plan 282 = .ok (.istore 8, 2) := by decide +kernel
theorem dX10_plan_284 : decode cX10_plan 284 = .ok (.iload 9, 2) := by decide +kernel
theorem dX10_plan_286 : decode cX10_plan 286 = .ok (.iload 11, 2) := by decide +kernel
theorem dX10_plan_288 : decode cX10_plan 288 = .ok (.iadd, 1) := by decide +kernel
theorem dX10_plan_289 : decode cX10_plan 289 = .ok (.istore 9, 2) := by decide +kernel
theorem dX10_plan_291 : decode cX10_plan 291 = .ok (.iinc 10 1, 3) := by decide +kernel
theorem dX10_plan_294 : decode cX10_plan 294 = .ok (.goto (-73), 3) := by decide +kernel
theorem dX10_plan_297 : decode cX10_plan 297 = .ok (.iload 7, 2) := by decide +kernel
theorem dX10_plan_299 : decode cX10_plan 299 = .ok (.iload_n 3, 1) := by decide +kernel
theorem dX10_plan_300 : decode cX10_plan 300 = .ok (.if_icmp .gt 64, 3) := by decide +kernel
theorem dX10_plan_303 : decode cX10_plan 303 = .ok (.iload 8, 2) := by decide +kernel
theorem dX10_plan_305 : decode cX10_plan 305 = .ok (.iload 4, 2) := by decide +kernel
theorem dX10_plan_307 : decode cX10_plan 307 = .ok (.if_icmp .lt 17, 3) := by decide +kernel
theorem dX10_plan_310 : decode cX10_plan 310 = .ok (.iload 8, 2) := by decide +kernel
theorem dX10_plan_312 : decode cX10_plan 312 = .ok (.iload 4, 2) := by decide +kernel
theorem dX10_plan_314 : decode cX10_plan 314 = .ok (.if_icmp .ne 50, 3) := by decide +kernel
theorem dX10_plan_317 : decode cX10_plan 317 = .ok (.iload 9, 2) := by decide +kernel
theorem dX10_plan_319 : decode cX10_plan 319 = .ok (.iload 5, 2) := by decide +kernel
theorem dX10_plan_321 : decode cX10_plan 321 = .ok (.if_icmp .ge 43, 3) := by decide +kernel
theorem dX10_plan_324 : decode cX10_plan 324 = .ok (.iload 8, 2) := by decide +kernel
theorem dX10_plan_326 : decode cX10_plan 326 = .ok (.istore 4, 2) := by decide +kernel
theorem dX10_plan_328 : decode cX10_plan 328 = .ok (.iload 9, 2) := by decide +kernel
theorem dX10_plan_330 : decode cX10_plan 330 = .ok (.istore 5, 2) := by decide +kernel
theorem dX10_plan_332 : decode cX10_plan 332 = .ok (.iconst 0, 1) := by decide +kernel
theorem dX10_plan_333 : decode cX10_plan 333 = .ok (.istore 10, 2) := by decide +kernel
theorem dX10_plan_335 : decode cX10_plan 335 = .ok (.iload 10, 2) := by decide +kernel
theorem dX10_plan_337 : decode cX10_plan 337 = .ok (.aload_n 0, 1) := by decide +kernel
theorem dX10_plan_338 : decode cX10_plan 338 = .ok (.getfield 428, 3) := by decide +kernel
theorem dX10_plan_341 : decode cX10_plan 341 = .ok (.if_icmp .ge 23, 3) := by decide +kernel
theorem dX10_plan_344 : decode cX10_plan 344 = .ok (.aload_n 0, 1) := by decide +kernel
theorem dX10_plan_345 : decode cX10_plan 345 = .ok (.getfield 183, 3) := by decide +kernel
theorem dX10_plan_348 : decode cX10_plan 348 = .ok (.iload 10, 2) := by decide +kernel
theorem dX10_plan_350 : decode cX10_plan 350 = .ok (.aload_n 0, 1) := by decide +kernel
theorem dX10_plan_351 : decode cX10_plan 351 = .ok (.getfield 180, 3) := by decide +kernel
theorem dX10_plan_354 : decode cX10_plan 354 = .ok (.iload 10, 2) := by decide +kernel
theorem dX10_plan_356 : decode cX10_plan 356 = .ok (.iaload, 1) := by decide +kernel
theorem dX10_plan_357 : decode cX10_plan 357 = .ok (.iastore, 1) := by decide +kernel
theorem dX10_plan_358 : decode cX10_plan 358 = .ok (.iinc 10 1, 3) := by decide +kernel
theorem dX10_plan_361 : decode cX10_plan 361 = .ok (.goto (-26), 3) := by decide +kernel
theorem dX10_plan_364 : decode cX10_plan 364 = .ok (.aload_n 0, 1) := by decide +kernel
theorem dX10_plan_365 : decode cX10_plan 365 = .ok (.getfield 428, 3) := by decide +kernel
theorem dX10_plan_368 : decode cX10_plan 368 = .ok (.iconst 1, 1) := by decide +kernel
theorem dX10_plan_369 : decode cX10_plan 369 = .ok (.isub, 1) := by decide +kernel
theorem dX10_plan_370 : decode cX10_plan 370 = .ok (.istore 10, 2) := by decide +kernel
theorem dX10_plan_372 : decode cX10_plan 372 = .ok (.iload 10, 2) := by decide +kernel
theorem dX10_plan_374 : decode cX10_plan 374 = .ok (.ifCond .lt 29, 3) := by decide +kernel
theorem dX10_plan_377 : decode cX10_plan 377 = .ok (.aload_n 0, 1) := by decide +kernel
theorem dX10_plan_378 : decode cX10_plan 378 = .ok (.getfield 180, 3) := by decide +kernel
theorem dX10_plan_381 : decode cX10_plan 381 = .ok (.iload 10, 2) := by decide +kernel
theorem dX10_plan_383 : decode cX10_plan 383 = .ok (.iaload, 1) := by decide +kernel
theorem dX10_plan_384 : decode cX10_plan 384 = .ok (.bipush 12, 2) := by decide +kernel
theorem dX10_plan_386 : decode cX10_plan 386 = .ok (.if_icmp .ne 17, 3) := by decide +kernel
theorem dX10_plan_389 : decode cX10_plan 389 = .ok (.aload_n 0, 1) := by decide +kernel
theorem dX10_plan_390 : decode cX10_plan 390 = .ok (.getfield 180, 3) := by decide +kernel
theorem dX10_plan_393 : decode cX10_plan 393 = .ok (.iload 10, 2) := by decide +kernel
theorem dX10_plan_395 : decode cX10_plan 395 = .ok (.iconst 0, 1) := by decide +kernel
theorem dX10_plan_396 : decode cX10_plan 396 = .ok (.iastore, 1) := by decide +kernel
theorem dX10_plan_397 : decode cX10_plan 397 = .ok (.iinc 10 (-1), 3) := by decide +kernel
theorem dX10_plan_400 : decode cX10_plan 400 = .ok (.goto (-28), 3) := by decide +kernel
theorem dX10_plan_403 : decode cX10_plan 403 = .ok (.iload 10, 2) := by decide +kernel
theorem dX10_plan_405 : decode cX10_plan 405 = .ok (.ifCond .lt 7, 3) := by decide +kernel
theorem dX10_plan_408 : decode cX10_plan 408 = .ok (.iconst 1, 1) := by decide +kernel
theorem dX10_plan_409 : decode cX10_plan 409 = .ok (.goto 4, 3) := by decide +kernel
theorem dX10_plan_412 : decode cX10_plan 412 = .ok (.iconst 0, 1) := by decide +kernel
theorem dX10_plan_413 : decode cX10_plan 413 = .ok (.istore 6, 2) := by decide +kernel
theorem dX10_plan_415 : decode cX10_plan 415 = .ok (.iload 6, 2) := by decide +kernel
theorem dX10_plan_417 : decode cX10_plan 417 = .ok (.ifCond .eq 14, 3) := by decide +kernel
theorem dX10_plan_420 : decode cX10_plan 420 = .ok (.aload_n 0, 1) := by decide +kernel
theorem dX10_plan_421 : decode cX10_plan 421 = .ok (.getfield 180, 3) := by decide +kernel
theorem dX10_plan_424 : decode cX10_plan 424 = .ok (.iload 10, 2) := by decide +kernel
theorem dX10_plan_426 : decode cX10_plan 426 = .ok (.dup2, 1) := by decide +kernel
theorem dX10_plan_427 : decode cX10_plan 427 = .ok (.iaload, 1) := by decide +kernel
theorem dX10_plan_428 : decode cX10_plan 428 = .ok (.iconst 1, 1) := by decide +kernel
theorem dX10_plan_429 : decode cX10_plan 429 = .ok (.iadd, 1) := by decide +kernel
theorem dX10_plan_430 : decode cX10_plan 430 = .ok (.iastore, 1) := by decide +kernel
theorem dX10_plan_431 : decode cX10_plan 431 = .ok (.goto (-227), 3) := by decide +kernel
theorem dX10_plan_434 : decode cX10_plan 434 = .ok (.iload 4, 2) := by decide +kernel
theorem dX10_plan_436 : decode cX10_plan 436 = .ok (.ldc_w 431, 3) := by decide +kernel
theorem dX10_plan_439 : decode cX10_plan 439 = .ok (.if_icmp .ne 6, 3) := by decide +kernel
theorem dX10_plan_442 : decode cX10_plan 442 = .ok (.bipush (-2), 2) := by decide +kernel
theorem dX10_plan_444 : decode cX10_plan 444 = .ok (.ireturn, 1) := by decide +kernel
theorem dX10_plan_445 : decode cX10_plan 445 = .ok (.aload_n 0, 1) := by decide +kernel
theorem dX10_plan_446 : decode cX10_plan 446 = .ok (.aload_n 0, 1) := by decide +kernel
theorem dX10_plan_447 : decode cX10_plan 447 = .ok (.getfield 428, 3) := by decide +kernel
theorem dX10_plan_450 : decode cX10_plan 450 = .ok (.putfield 435, 3) := by decide +kernel
theorem dX10_plan_453 : decode cX10_plan 453 = .ok (.iconst 0, 1) := by decide +kernel
theorem dX10_plan_454 : decode cX10_plan 454 = .ok (.istore 7, 2) := by decide +kernel
theorem dX10_plan_456 : decode cX10_plan 456 = .ok (.iload 7, 2) := by decide +kernel
theorem dX10_plan_458 : decode cX10_plan 458 = .ok (.aload_n 0, 1) := by decide +kernel
theorem dX10_plan_459 : decode cX10_plan 459 = .ok (.getfield 428, 3) := by decide +kernel
theorem dX10_plan_462 : decode cX10_plan 462 = .ok (.if_icmp .ge 68, 3) := by decide +kernel
theorem dX10_plan_465 : decode cX10_plan 465 = .ok (.aload_n 0, 1) := by decide +kernel
theorem dX10_plan_466 : decode cX10_plan 466 = .ok (.getfield 165, 3) := by decide +kernel
theorem dX10_plan_469 : decode cX10_plan 469 = .ok (.iload 7, 2) := by decide +kernel
theorem dX10_plan_471 : decode cX10_plan 471 = .ok (.aload_n 0, 1) := by decide +kernel
theorem dX10_plan_472 : decode cX10_plan 472 = .ok (.getfield 171, 3) := by decide +kernel
theorem dX10_plan_475 : decode cX10_plan 475 = .ok (.iload 7, 2) := by decide +kernel
theorem dX10_plan_477 : decode cX10_plan 477 = .ok (.iaload, 1) := by decide +kernel
theorem dX10_plan_478 : decode cX10_plan 478 = .ok (.iastore, 1) := by decide +kernel
theorem dX10_plan_479 : decode cX10_plan 479 = .ok (.aload_n 0, 1) := by decide +kernel
theorem dX10_plan_480 : decode cX10_plan 480 = .ok (.getfield 168, 3) := by decide +kernel
theorem dX10_plan_483 : decode cX10_plan 483 = .ok (.iload 7, 2) := by decide +kernel
theorem dX10_plan_485 : decode cX10_plan 485 = .ok (.aload_n 0, 1) := by decide +kernel
theorem dX10_plan_486 : decode cX10_plan 486 = .ok (.getfield 177, 3) := by decide +kernel
theorem dX10_plan_489 : decode cX10_plan 489 = .ok (.iload 7, 2) := by decide +kernel
theorem dX10_plan_491 : decode cX10_plan 491 = .ok (.iaload, 1) := by decide +kernel
theorem dX10_plan_492 : decode cX10_plan 492 = .ok (.aload_n 0, 1) := by decide +kernel
theorem dX10_plan_493 : decode cX10_plan 493 = .ok (.getfield 183, 3) := by decide +kernel
theorem dX10_plan_496 : decode cX10_plan 496 = .ok (.iload 7, 2) := by decide +kernel
theorem dX10_plan_498 : decode cX10_plan 498 = .ok (.iaload, 1) := by decide +kernel
theorem dX10_plan_499 : decode cX10_plan 499 = .ok (.iload_n 2, 1) := by decide +kernel
theorem dX10_plan_500 : decode cX10_plan 500 = .ok (.imul, 1) := by decide +kernel
theorem dX10_plan_501 : decode cX10_plan 501 = .ok (.iadd, 1) := by decide +kernel
theorem dX10_plan_502 : decode cX10_plan 502 = .ok (.iastore, 1) := by decide +kernel
theorem dX10_plan_503 : decode cX10_plan 503 = .ok (.aload_n 0, 1) := by decide +kernel
theorem dX10_plan_504 : decode cX10_plan 504 = .ok (.getfield 186, 3) := by decide +kernel
theorem dX10_plan_507 : decode cX10_plan 507 = .ok (.iload 7, 2) := by decide +kernel
theorem dX10_plan_509 : decode cX10_plan 509 = .ok (.aload_n 0, 1) := by decide +kernel
theorem dX10_plan_510 : decode cX10_plan 510 = .ok (.iload 7, 2) := by decide +kernel
theorem dX10_plan_512 : decode cX10_plan 512 = .ok (.aload_n 0, 1) := by decide +kernel
theorem dX10_plan_513 : decode cX10_plan 513 = .ok (.getfield 183, 3) := by decide +kernel
theorem dX10_plan_516 : decode cX10_plan 516 = .ok (.iload 7, 2) := by decide +kernel
theorem dX10_plan_518 : decode cX10_plan 518 = .ok (.iaload, 1) := by decide +kernel
theorem dX10_plan_519 : decode cX10_plan 519 = .ok (.iload_n 2, 1) := by decide +kernel
theorem dX10_plan_520 : decode cX10_plan 520 = .ok (.invokevirtual 432, 3) := by decide +kernel
theorem dX10_plan_523 : decode cX10_plan 523 = .ok (.iastore, 1) := by decide +kernel
theorem dX10_plan_524 : decode cX10_plan 524 = .ok (.iinc 7 1, 3) := by decide +kernel
theorem dX10_plan_527 : decode cX10_plan 527 = .ok (.goto (-71), 3) := by decide +kernel
theorem dX10_plan_530 : decode cX10_plan 530 = .ok (.iload 4, 2) := by decide +kernel
theorem dX10_plan_532 : decode cX10_plan 532 = .ok (.ireturn, 1) := by decide +kernel
theorem dX10_planned_0 : decode cX10_planned 0 = .ok (.iload_n 1, 1) := by decide +kernel
theorem dX10_planned_1 : decode cX10_planned 1 = .ok (.iconst 0, 1) := by decide +kernel
theorem dX10_planned_2 : decode cX10_planned 2 = .ok (.aload_n 0, 1) := by decide +kernel
theorem dX10_planned_3 : decode cX10_planned 3 = .ok (.getfield 435, 3) := by decide +kernel
theorem dX10_planned_6 : decode cX10_planned 6 = .ok (.iconst 1, 1) := by decide +kernel
theorem dX10_planned_7 : decode cX10_planned 7 = .ok (.isub, 1) := by decide +kernel
theorem dX10_planned_8 : decode cX10_planned 8 = .ok (.invokestatic 228, 3) := by decide +kernel
theorem dX10_planned_11 : decode cX10_planned 11 = .ok (.ifCond .ne 5, 3) := by decide +kernel
theorem dX10_planned_14 : decode cX10_planned 14 = .ok (.iconst (-1), 1) := by decide +kernel
theorem dX10_planned_15 : decode cX10_planned 15 = .ok (.ireturn, 1) := by decide +kernel
theorem dX10_planned_16 : decode cX10_planned 16 = .ok (.iload_n 2, 1) := by decide +kernel
theorem dX10_planned_17 : decode cX10_planned 17 = .ok (.ifCond .ne 12, 3) := by decide +kernel
theorem dX10_planned_20 : decode cX10_planned 20 = .ok (.aload_n 0, 1) := by decide +kernel
theorem dX10_planned_21 : decode cX10_planned 21 = .ok (.getfield 165, 3) := by decide +kernel
theorem dX10_planned_24 : decode cX10_planned 24 = .ok (.iload_n 1, 1) := by decide +kernel
theorem dX10_planned_25 : decode cX10_planned 25 = .ok (.iaload, 1) := by decide +kernel
theorem dX10_planned_26 : decode cX10_planned 26 = .ok (.goto 32, 3) := by decide +kernel
theorem dX10_planned_29 : decode cX10_planned 29 = .ok (.iload_n 2, 1) := by decide +kernel
theorem dX10_planned_30 : decode cX10_planned 30 = .ok (.iconst 1, 1) := by decide +kernel
theorem dX10_planned_31 : decode cX10_planned 31 = .ok (.if_icmp .ne 12, 3) := by decide +kernel
theorem dX10_planned_34 : decode cX10_planned 34 = .ok (.aload_n 0, 1) := by decide +kernel
theorem dX10_planned_35 : decode cX10_planned 35 = .ok (.getfield 168, 3) := by decide +kernel
theorem dX10_planned_38 : decode cX10_planned 38 = .ok (.iload_n 1, 1) := by decide +kernel
theorem dX10_planned_39 : decode cX10_planned 39 = .ok (.iaload, 1) := by decide +kernel
theorem dX10_planned_40 : decode cX10_planned 40 = .ok (.goto 18, 3) := by decide +kernel
theorem dX10_planned_43 : decode cX10_planned 43 = .ok (.iload_n 2, 1) := by decide +kernel
theorem dX10_planned_44 : decode cX10_planned 44 = .ok (.iconst 2, 1) := by decide +kernel
theorem dX10_planned_45 : decode cX10_planned 45 = .ok (.if_icmp .ne 12, 3) := by decide +kernel
theorem dX10_planned_48 : decode cX10_planned 48 = .ok (.aload_n 0, 1) := by decide +kernel
theorem dX10_planned_49 : decode cX10_planned 49 = .ok (.getfield 186, 3) := by decide +kernel
theorem dX10_planned_52 : decode cX10_planned 52 = .ok (.iload_n 1, 1) := by decide +kernel
theorem dX10_planned_53 : decode cX10_planned 53 = .ok (.iaload, 1) := by decide +kernel
theorem dX10_planned_54 : decode cX10_planned 54 = .ok (.goto 4, 3) := by decide +kernel
theorem dX10_planned_57 : decode cX10_planned 57 = .ok (.iconst (-1), 1) := by decide +kernel
theorem dX10_planned_58 : decode cX10_planned 58 = .ok (.ireturn, 1) := by decide +kernel
theorem dX10_debts_0 : decode cX10_debts 0 = .ok (.iconst 0, 1) := by decide +kernel
theorem dX10_debts_1 : decode cX10_debts 1 = .ok (.istore_n 1, 1) := by decide +kernel
theorem dX10_debts_2 : decode cX10_debts 2 = .ok (.iload_n 1, 1) := by decide +kernel
theorem dX10_debts_3 : decode cX10_debts 3 = .ok (.sipush 1600, 3) := by decide +kernel
theorem dX10_debts_6 : decode cX10_debts 6 = .ok (.if_icmp .ge 16, 3) := by decide +kernel
theorem dX10_debts_9 : decode cX10_debts 9 = .ok (.aload_n 0, 1) := by decide +kernel
theorem dX10_debts_10 : decode cX10_debts 10 = .ok (.getfield 189, 3) := by decide +kernel
theorem dX10_debts_13 : decode cX10_debts 13 = .ok (.iload_n 1, 1) := by decide +kernel
theorem dX10_debts_14 : decode cX10_debts 14 = .ok (.iconst 0, 1) := by decide +kernel
theorem dX10_debts_15 : decode cX10_debts 15 = .ok (.iastore, 1) := by decide +kernel
theorem dX10_debts_16 : decode cX10_debts 16 = .ok (.iinc 1 1, 3) := by decide +kernel
theorem dX10_debts_19 : decode cX10_debts 19 = .ok (.goto (-17), 3) := by decide +kernel
theorem dX10_debts_22 : decode cX10_debts 22 = .ok (.iconst 0, 1) := by decide +kernel
theorem dX10_debts_23 : decode cX10_debts 23 = .ok (.istore_n 1, 1) := by decide +kernel
theorem dX10_debts_24 : decode cX10_debts 24 = .ok (.iload_n 1, 1) := by decide +kernel
theorem dX10_debts_25 : decode cX10_debts 25 = .ok (.aload_n 0, 1) := by decide +kernel
theorem dX10_debts_26 : decode cX10_debts 26 = .ok (.getfield 367, 3) := by decide +kernel
theorem dX10_debts_29 : decode cX10_debts 29 = .ok (.if_icmp .ge 45, 3) := by decide +kernel
theorem dX10_debts_32 : decode cX10_debts 32 = .ok (.aload_n 0, 1) := by decide +kernel
theorem dX10_debts_33 : decode cX10_debts 33 = .ok (.iload_n 1, 1) := by decide +kernel
theorem dX10_debts_34 : decode cX10_debts 34 = .ok (.invokevirtual 419, 3) := by decide +kernel
theorem dX10_debts_37 : decode cX10_debts 37 = .ok (.ifCond .eq 31, 3) := by decide +kernel
theorem dX10_debts_40 : decode cX10_debts 40 = .ok (.aload_n 0, 1) := by decide +kernel
theorem dX10_debts_41 : decode cX10_debts 41 = .ok (.getfield 189, 3) := by decide +kernel
theorem dX10_debts_44 : decode cX10_debts 44 = .ok (.bipush 40, 2) := by decide +kernel
theorem dX10_debts_46 : decode cX10_debts 46 = .ok (.aload_n 0, 1) := by decide +kernel
theorem dX10_debts_47 : decode cX10_debts 47 = .ok (.getfield 84, 3) := by decide +kernel
theorem dX10_debts_50 : decode cX10_debts 50 = .ok (.iload_n 1, 1) := by decide +kernel
theorem dX10_debts_51 : decode cX10_debts 51 = .ok (.iaload, 1) := by decide +kernel
theorem dX10_debts_52 : decode cX10_debts 52 = .ok (.imul, 1) := by decide +kernel
theorem dX10_debts_53 : decode cX10_debts 53 = .ok (.aload_n 0, 1) := by decide +kernel
theorem dX10_debts_54 : decode cX10_debts 54 = .ok (.getfield 81, 3) := by decide +kernel
theorem dX10_debts_57 : decode cX10_debts 57 = .ok (.iload_n 1, 1) := by decide +kernel
theorem dX10_debts_58 : decode cX10_debts 58 = .ok (.iaload, 1) := by decide +kernel
theorem dX10_debts_59 : decode cX10_debts 59 = .ok (.iadd, 1) := by decide +kernel
theorem dX10_debts_60 : decode cX10_debts 60 = .ok (.dup2, 1) := by decide +kernel
theorem dX10_debts_61 : decode cX10_debts 61 = .ok (.iaload, 1) := by decide +kernel
theorem dX10_debts_62 : decode cX10_debts 62 = .ok (.aload_n 0, 1) := by decide +kernel
theorem dX10_debts_63 : decode cX10_debts 63 = .ok (.getfield 401, 3) := by decide +kernel
theorem dX10_debts_66 : decode cX10_debts 66 = .ok (.iadd, 1) := by decide +kernel
theorem dX10_debts_67 : decode cX10_debts 67 = .ok (.iastore, 1) := by decide +kernel
theorem dX10_debts_68 : decode cX10_debts 68 = .ok (.iinc 1 1, 3) := by decide +kernel
theorem dX10_debts_71 : decode cX10_debts 71 = .ok (.goto (-47), 3) := by decide +kernel
theorem dX10_debts_74 : decode cX10_debts 74 = .ok (.return_, 1) := by decide +kernel
theorem dX10_offers_0 : decode cX10_offers 0 = .ok (.aload_n 0, 1) := by decide +kernel
theorem dX10_offers_1 : decode cX10_offers 1 = .ok (.getfield 189, 3) := by decide +kernel
theorem dX10_offers_4 : decode cX10_offers 4 = .ok (.bipush 40, 2) := by decide +kernel
theorem dX10_offers_6 : decode cX10_offers 6 = .ok (.aload_n 0, 1) := by decide +kernel
theorem dX10_offers_7 : decode cX10_offers 7 = .ok (.getfield 198, 3) := by decide +kernel
theorem dX10_offers_10 : decode cX10_offers 10 = .ok (.iload_n 1, 1) := by decide +kernel
theorem dX10_offers_11 : decode cX10_offers 11 = .ok (.iconst 1, 1) := by decide +kernel
theorem dX10_offers_12 : decode cX10_offers 12 = .ok (.isub, 1) := by decide +kernel
theorem dX10_offers_13 : decode cX10_offers 13 = .ok (.iaload, 1) := by decide +kernel
theorem dX10_offers_14 : decode cX10_offers 14 = .ok (.imul, 1) := by decide +kernel
theorem dX10_offers_15 : decode cX10_offers 15 = .ok (.aload_n 0, 1) := by decide +kernel
theorem dX10_offers_16 : decode cX10_offers 16 = .ok (.getfield 198, 3) := by decide +kernel
theorem dX10_offers_19 : decode cX10_offers 19 = .ok (.iconst 0, 1) := by decide +kernel
theorem dX10_offers_20 : decode cX10_offers 20 = .ok (.iaload, 1) := by decide +kernel
theorem dX10_offers_21 : decode cX10_offers 21 = .ok (.iadd, 1) := by decide +kernel
theorem dX10_offers_22 : decode cX10_offers 22 = .ok (.iaload, 1) := by decide +kernel
theorem dX10_offers_23 : decode cX10_offers 23 = .ok (.istore_n 3, 1) := by decide +kernel
theorem dX10_offers_24 : decode cX10_offers 24 = .ok (.iload_n 3, 1) := by decide +kernel
theorem dX10_offers_25 : decode cX10_offers 25 = .ok (.iload_n 2, 1) := by decide +kernel
theorem dX10_offers_26 : decode cX10_offers 26 = .ok (.if_icmp .ge 7, 3) := by decide +kernel
theorem dX10_offers_29 : decode cX10_offers 29 = .ok (.iload_n 3, 1) := by decide +kernel
theorem dX10_offers_30 : decode cX10_offers 30 = .ok (.goto 4, 3) := by decide +kernel
theorem dX10_offers_33 : decode cX10_offers 33 = .ok (.iload_n 2, 1) := by decide +kernel
theorem dX10_offers_34 : decode cX10_offers 34 = .ok (.istore 4, 2) := by decide +kernel
theorem dX10_offers_36 : decode cX10_offers 36 = .ok (.iload 4, 2) := by decide +kernel
theorem dX10_offers_38 : decode cX10_offers 38 = .ok (.ifCond .eq 29, 3) := by decide +kernel
theorem dX10_offers_41 : decode cX10_offers 41 = .ok (.iload 4, 2) := by decide +kernel
theorem dX10_offers_43 : decode cX10_offers 43 = .ok (.aload_n 0, 1) := by decide +kernel
theorem dX10_offers_44 : decode cX10_offers 44 = .ok (.getfield 438, 3) := by decide +kernel
theorem dX10_offers_47 : decode cX10_offers 47 = .ok (.if_icmp .lt 20, 3) := by decide +kernel
theorem dX10_offers_50 : decode cX10_offers 50 = .ok (.iload 4, 2) := by decide +kernel
theorem dX10_offers_52 : decode cX10_offers 52 = .ok (.aload_n 0, 1) := by decide +kernel
theorem dX10_offers_53 : decode cX10_offers 53 = .ok (.getfield 438, 3) := by decide +kernel
theorem dX10_offers_56 : decode cX10_offers 56 = .ok (.if_icmp .ne 12, 3) := by decide +kernel
theorem dX10_offers_59 : decode cX10_offers 59 = .ok (.iload_n 1, 1) := by decide +kernel
theorem dX10_offers_60 : decode cX10_offers 60 = .ok (.aload_n 0, 1) := by decide +kernel
theorem dX10_offers_61 : decode cX10_offers 61 = .ok (.getfield 441, 3) := by decide +kernel
theorem dX10_offers_64 : decode cX10_offers 64 = .ok (.if_icmp .lt 4, 3) := by decide +kernel
theorem dX10_offers_67 : decode cX10_offers 67 = .ok (.return_, 1) := by decide +kernel
theorem dX10_offers_68 : decode cX10_offers 68 = .ok (.aload_n 0, 1) := by decide +kernel
theorem dX10_offers_69 : decode cX10_offers 69 = .ok (.iload 4, 2) := by decide +kernel
theorem dX10_offers_71 : decode cX10_offers 71 = .ok (.putfield 438, 3) := by decide +kernel
theorem dX10_offers_74 : decode cX10_offers 74 = .ok (.aload_n 0, 1) := by decide +kernel
theorem dX10_offers_75 : decode cX10_offers 75 = .ok (.iload_n 1, 1) := by decide +kernel
theorem dX10_offers_76 : decode cX10_offers 76 = .ok (.putfield 441, 3) := by decide +kernel
theorem dX10_offers_79 : decode cX10_offers 79 = .ok (.iconst 0, 1) := by decide +kernel
theorem dX10_offers_80 : decode cX10_offers 80 = .ok (.istore 5, 2) := by decide +kernel
theorem dX10_offers_82 : decode cX10_offers 82 = .ok (.iload 5, 2) := by decide +kernel
theorem dX10_offers_84 : decode cX10_offers 84 = .ok (.iload_n 1, 1) := by decide +kernel
theorem dX10_offers_85 : decode cX10_offers 85 = .ok (.if_icmp .ge 23, 3) := by decide +kernel
theorem dX10_offers_88 : decode cX10_offers 88 = .ok (.aload_n 0, 1) := by decide +kernel
theorem dX10_offers_89 : decode cX10_offers 89 = .ok (.getfield 195, 3) := by decide +kernel
theorem dX10_offers_92 : decode cX10_offers 92 = .ok (.iload 5, 2) := by decide +kernel
theorem dX10_offers_94 : decode cX10_offers 94 = .ok (.aload_n 0, 1) := by decide +kernel
theorem dX10_offers_95 : decode cX10_offers 95 = .ok (.getfield 198, 3) := by decide +kernel
theorem dX10_offers_98 : decode cX10_offers 98 = .ok (.iload 5, 2) := by decide +kernel
theorem dX10_offers_100 : decode cX10_offers 100 = .ok (.iaload, 1) := by decide +kernel
theorem dX10_offers_101 : decode cX10_offers 101 = .ok (.iastore, 1) := by decide +kernel
theorem dX10_offers_102 : decode cX10_offers 102 = .ok (.iinc 5 1, 3) := by decide +kernel
theorem dX10_offers_105 : decode cX10_offers 105 = .ok (.goto (-23), 3) := by decide +kernel
theorem dX10_offers_108 : decode cX10_offers 108 = .ok (.return_, 1) := by decide +kernel
theorem dX10_lesser_0 : decode cX10_lesser 0 = .ok (.iload_n 0, 1) := by decide +kernel
theorem dX10_lesser_1 : decode cX10_lesser 1 = .ok (.iload_n 1, 1) := by decide +kernel
theorem dX10_lesser_2 : decode cX10_lesser 2 = .ok (.if_icmp .ge 7, 3) := by decide +kernel
theorem dX10_lesser_5 : decode cX10_lesser 5 = .ok (.iload_n 0, 1) := by decide +kernel
theorem dX10_lesser_6 : decode cX10_lesser 6 = .ok (.goto 4, 3) := by decide +kernel
theorem dX10_lesser_9 : decode cX10_lesser 9 = .ok (.iload_n 1, 1) := by decide +kernel
theorem dX10_lesser_10 : decode cX10_lesser 10 = .ok (.ireturn, 1) := by decide +kernel
theorem dX10_finds_0 : decode cX10_finds 0 = .ok (.aload_n 0, 1) := by decide +kernel
theorem dX10_finds_1 : decode cX10_finds 1 = .ok (.iconst 0, 1) := by decide +kernel
theorem dX10_finds_2 : decode cX10_finds 2 = .ok (.putfield 438, 3) := by decide +kernel
theorem dX10_finds_5 : decode cX10_finds 5 = .ok (.aload_n 0, 1) := by decide +kernel
theorem dX10_finds_6 : decode cX10_finds 6 = .ok (.iconst 0, 1) := by decide +kernel
theorem dX10_finds_7 : decode cX10_finds 7 = .ok (.putfield 441, 3) := by decide +kernel
theorem dX10_finds_10 : decode cX10_finds 10 = .ok (.iconst 0, 1) := by decide +kernel
theorem dX10_finds_11 : decode cX10_finds 11 = .ok (.istore_n 1, 1) := by decide +kernel
theorem dX10_finds_12 : decode cX10_finds 12 = .ok (.iload_n 1, 1) := by decide +kernel
theorem dX10_finds_13 : decode cX10_finds 13 = .ok (.aload_n 0, 1) := by decide +kernel
theorem dX10_finds_14 : decode cX10_finds 14 = .ok (.getfield 337, 3) := by decide +kernel
theorem dX10_finds_17 : decode cX10_finds 17 = .ok (.if_icmp .ge 209, 3) := by decide +kernel
theorem dX10_finds_20 : decode cX10_finds 20 = .ok (.aload_n 0, 1) := by decide +kernel
theorem dX10_finds_21 : decode cX10_finds 21 = .ok (.getfield 198, 3) := by decide +kernel
theorem dX10_finds_24 : decode cX10_finds 24 = .ok (.iconst 0, 1) := by decide +kernel
theorem dX10_finds_25 : decode cX10_finds 25 = .ok (.iload_n 1, 1) := by decide +kernel
theorem dX10_finds_26 : decode cX10_finds 26 = .ok (.iastore, 1) := by decide +kernel
theorem dX10_finds_27 : decode cX10_finds 27 = .ok (.iload_n 1, 1) := by decide +kernel
theorem dX10_finds_28 : decode cX10_finds 28 = .ok (.iconst 1, 1) := by decide +kernel
theorem dX10_finds_29 : decode cX10_finds 29 = .ok (.iadd, 1) := by decide +kernel
theorem dX10_finds_30 : decode cX10_finds 30 = .ok (.istore_n 2, 1) := by decide +kernel
theorem dX10_finds_31 : decode cX10_finds 31 = .ok (.iload_n 2, 1) := by decide +kernel
theorem dX10_finds_32 : decode cX10_finds 32 = .ok (.aload_n 0, 1) := by decide +kernel
theorem dX10_finds_33 : decode cX10_finds 33 = .ok (.getfield 337, 3) := by decide +kernel
theorem dX10_finds_36 : decode cX10_finds 36 = .ok (.if_icmp .ge 184, 3) := by decide +kernel
theorem dX10_finds_39 : decode cX10_finds 39 = .ok (.aload_n 0, 1) := by decide +kernel
theorem dX10_finds_40 : decode cX10_finds 40 = .ok (.getfield 189, 3) := by decide +kernel
theorem dX10_finds_43 : decode cX10_finds 43 = .ok (.bipush 40, 2) := by decide +kernel
theorem dX10_finds_45 : decode cX10_finds 45 = .ok (.iload_n 1, 1) := by decide +kernel
theorem dX10_finds_46 : decode cX10_finds 46 = .ok (.imul, 1) := by decide +kernel
theorem dX10_finds_47 : decode cX10_finds 47 = .ok (.iload_n 2, 1) := by decide +kernel
theorem dX10_finds_48 : decode cX10_finds 48 = .ok (.iadd, 1) := by decide +kernel
theorem dX10_finds_49 : decode cX10_finds 49 = .ok (.iaload, 1) := by decide +kernel
theorem dX10_finds_50 : decode cX10_finds 50 = .ok (.istore_n 3, 1) := by decide +kernel
theorem dX10_finds_51 : decode cX10_finds 51 = .ok (.iload_n 3, 1) := by decide +kernel
theorem dX10_finds_52 : decode cX10_finds 52 = .ok (.ifCond .ne 6, 3) := by decide +kernel
theorem dX10_finds_55 : decode cX10_finds 55 = .ok (.goto 159, 3) := by decide +kernel
theorem dX10_finds_58 : decode cX10_finds 58 = .ok (.aload_n 0, 1) := by decide +kernel
theorem dX10_finds_59 : decode cX10_finds 59 = .ok (.getfield 198, 3) := by decide +kernel
theorem dX10_finds_62 : decode cX10_finds 62 = .ok (.iconst 1, 1) := by decide +kernel
theorem dX10_finds_63 : decode cX10_finds 63 = .ok (.iload_n 2, 1) := by decide +kernel
theorem dX10_finds_64 : decode cX10_finds 64 = .ok (.iastore, 1) := by decide +kernel
theorem dX10_finds_65 : decode cX10_finds 65 = .ok (.aload_n 0, 1) := by decide +kernel
theorem dX10_finds_66 : decode cX10_finds 66 = .ok (.iconst 2, 1) := by decide +kernel
theorem dX10_finds_67 : decode cX10_finds 67 = .ok (.iload_n 3, 1) := by decide +kernel
theorem dX10_finds_68 : decode cX10_finds 68 = .ok (.invokevirtual 444, 3) := by decide +kernel
theorem dX10_finds_71 : decode cX10_finds 71 = .ok (.iload_n 1, 1) := by decide +kernel
theorem dX10_finds_72 : decode cX10_finds 72 = .ok (.iconst 1, 1) := by decide +kernel
theorem dX10_finds_73 : decode cX10_finds 73 = .ok (.iadd, 1) := by decide +kernel
theorem dX10_finds_74 : decode cX10_finds 74 = .ok (.istore 4, 2) := by decide +kernel
theorem dX10_finds_76 : decode cX10_finds 76 = .ok (.iload 4, 2) := by decide +kernel
theorem dX10_finds_78 : decode cX10_finds 78 = .ok (.aload_n 0, 1) := by decide +kernel
theorem dX10_finds_79 : decode cX10_finds 79 = .ok (.getfield 337, 3) := by decide +kernel
