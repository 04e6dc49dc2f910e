theorem dX9_hear_0 : decode cX9_hear 0 = .ok (.aload_n 0, 1) := by decide +kernel
theorem dX9_hear_1 : decode cX9_hear 1 = .ok (.iload_n 1, 1) := by decide +kernel
theorem dX9_hear_2 : decode cX9_hear 2 = .ok (.invokevirtual 200, 3) := by decide +kernel
theorem dX9_hear_5 : decode cX9_hear 5 = .ok (.astore 5, 2) := by decide +kernel
theorem dX9_hear_7 : decode cX9_hear 7 = .ok (.aload 5, 2) := by decide +kernel
theorem dX9_hear_9 : decode cX9_hear 9 = .ok (.ifnull 57, 3) := by decide +kernel
theorem dX9_hear_12 : decode cX9_hear 12 = .ok (.aload 5, 2) := by decide +kernel
theorem dX9_hear_14 : decode cX9_hear 14 = .ok (.getfield 204, 3) := by decide +kernel
theorem dX9_hear_17 : decode cX9_hear 17 = .ok (.iconst (-1), 1) := by decide +kernel
theorem dX9_hear_18 : decode cX9_hear 18 = .ok (.if_icmp .eq 48, 3) := by decide +kernel
theorem dX9_hear_21 : decode cX9_hear 21 = .ok (.aload 5, 2) := by decide +kernel
theorem dX9_hear_23 : decode cX9_hear 23 = .ok (.getfield 210, 3) := by decide +kernel
theorem dX9_hear_26 : decode cX9_hear 26 = .ok (.iconst (-1), 1) := by decide +kernel
theorem dX9_hear_27 : decode cX9_hear 27 = .ok (.if_icmp .ne 39, 3) := by decide +kernel
theorem dX9_hear_30 : decode cX9_hear 30 = .ok (.aload 5, 2) := by decide +kernel
theorem dX9_hear_32 : decode cX9_hear 32 = .ok (.getfield 212, 3) := by decide +kernel
theorem dX9_hear_35 : decode cX9_hear 35 = .ok (.getfield 148, 3) := by decide +kernel
theorem dX9_hear_38 : decode cX9_hear 38 = .ok (.ifCond .ne 28, 3) := by decide +kernel
theorem dX9_hear_41 : decode cX9_hear 41 = .ok (.iload 4, 2) := by decide +kernel
theorem dX9_hear_43 : decode cX9_hear 43 = .ok (.ifCond .lt 23, 3) := by decide +kernel
theorem dX9_hear_46 : decode cX9_hear 46 = .ok (.aload_n 0, 1) := by decide +kernel
theorem dX9_hear_47 : decode cX9_hear 47 = .ok (.getfield 216, 3) := by decide +kernel
theorem dX9_hear_50 : decode cX9_hear 50 = .ok (.bipush 100, 2) := by decide +kernel
theorem dX9_hear_52 : decode cX9_hear 52 = .ok (.if_icmp .ge 14, 3) := by decide +kernel
theorem dX9_hear_55 : decode cX9_hear 55 = .ok (.aload_n 0, 1) := by decide +kernel
theorem dX9_hear_56 : decode cX9_hear 56 = .ok (.aload 5, 2) := by decide +kernel
theorem dX9_hear_58 : decode cX9_hear 58 = .ok (.iload 4, 2) := by decide +kernel
theorem dX9_hear_60 : decode cX9_hear 60 = .ok (.invokevirtual 219, 3) := by decide +kernel
theorem dX9_hear_63 : decode cX9_hear 63 = .ok (.ifCond .ne 5, 3) := by decide +kernel
theorem dX9_hear_66 : decode cX9_hear 66 = .ok (.iconst (-1), 1) := by decide +kernel
theorem dX9_hear_67 : decode cX9_hear 67 = .ok (.ireturn, 1) := by decide +kernel
theorem dX9_hear_68 : decode cX9_hear 68 = .ok (.aload 5, 2) := by decide +kernel
theorem dX9_hear_70 : decode cX9_hear 70 = .ok (.getfield 223, 3) := by decide +kernel
theorem dX9_hear_73 : decode cX9_hear 73 = .ok (.getfield 143, 3) := by decide +kernel
theorem dX9_hear_76 : decode cX9_hear 76 = .ok (.istore 6, 2) := by decide +kernel
theorem dX9_hear_78 : decode cX9_hear 78 = .ok (.aload 5, 2) := by decide +kernel
theorem dX9_hear_80 : decode cX9_hear 80 = .ok (.getfield 212, 3) := by decide +kernel
theorem dX9_hear_83 : decode cX9_hear 83 = .ok (.getfield 143, 3) := by decide +kernel
theorem dX9_hear_86 : decode cX9_hear 86 = .ok (.istore 7, 2) := by decide +kernel
theorem dX9_hear_88 : decode cX9_hear 88 = .ok (.aload 5, 2) := by decide +kernel
theorem dX9_hear_90 : decode cX9_hear 90 = .ok (.getfield 196, 3) := by decide +kernel
theorem dX9_hear_93 : decode cX9_hear 93 = .ok (.iconst 0, 1) := by decide +kernel
theorem dX9_hear_94 : decode cX9_hear 94 = .ok (.iload_n 2, 1) := by decide +kernel
theorem dX9_hear_95 : decode cX9_hear 95 = .ok (.ifCond .eq 7, 3) := by decide +kernel
theorem dX9_hear_98 : decode cX9_hear 98 = .ok (.iconst 1, 1) := by decide +kernel
theorem dX9_hear_99 : decode cX9_hear 99 = .ok (.goto 4, 3) := by decide +kernel
theorem dX9_hear_102 : decode cX9_hear 102 = .ok (.iconst 0, 1) := by decide +kernel
theorem dX9_hear_103 : decode cX9_hear 103 = .ok (.iastore, 1) := by decide +kernel
theorem dX9_hear_104 : decode cX9_hear 104 = .ok (.aload 5, 2) := by decide +kernel
theorem dX9_hear_106 : decode cX9_hear 106 = .ok (.getfield 196, 3) := by decide +kernel
theorem dX9_hear_109 : decode cX9_hear 109 = .ok (.iconst 1, 1) := by decide +kernel
theorem dX9_hear_110 : decode cX9_hear 110 = .ok (.iload_n 3, 1) := by decide +kernel
theorem dX9_hear_111 : decode cX9_hear 111 = .ok (.ifCond .eq 7, 3) := by decide +kernel
theorem dX9_hear_114 : decode cX9_hear 114 = .ok (.iconst 1, 1) := by decide +kernel
theorem dX9_hear_115 : decode cX9_hear 115 = .ok (.goto 4, 3) := by decide +kernel
theorem dX9_hear_118 : decode cX9_hear 118 = .ok (.iconst 0, 1) := by decide +kernel
theorem dX9_hear_119 : decode cX9_hear 119 = .ok (.iastore, 1) := by decide +kernel
theorem dX9_hear_120 : decode cX9_hear 120 = .ok (.aload 5, 2) := by decide +kernel
theorem dX9_hear_122 : decode cX9_hear 122 = .ok (.getfield 196, 3) := by decide +kernel
theorem dX9_hear_125 : decode cX9_hear 125 = .ok (.iconst 4, 1) := by decide +kernel
theorem dX9_hear_126 : decode cX9_hear 126 = .ok (.aload_n 0, 1) := by decide +kernel
theorem dX9_hear_127 : decode cX9_hear 127 = .ok (.getfield 42, 3) := by decide +kernel
theorem dX9_hear_130 : decode cX9_hear 130 = .ok (.iload 6, 2) := by decide +kernel
theorem dX9_hear_132 : decode cX9_hear 132 = .ok (.iload 7, 2) := by decide +kernel
theorem dX9_hear_134 : decode cX9_hear 134 = .ok (.aload 5, 2) := by decide +kernel
theorem dX9_hear_136 : decode cX9_hear 136 = .ok (.getfield 193, 3) := by decide +kernel
theorem dX9_hear_139 : decode cX9_hear 139 = .ok (.invokevirtual 170, 3) := by decide +kernel
theorem dX9_hear_142 : decode cX9_hear 142 = .ok (.iastore, 1) := by decide +kernel
theorem dX9_hear_143 : decode cX9_hear 143 = .ok (.aload 5, 2) := by decide +kernel
theorem dX9_hear_145 : decode cX9_hear 145 = .ok (.getfield 196, 3) := by decide +kernel
theorem dX9_hear_148 : decode cX9_hear 148 = .ok (.iconst 5, 1) := by decide +kernel
theorem dX9_hear_149 : decode cX9_hear 149 = .ok (.aload_n 0, 1) := by decide +kernel
theorem dX9_hear_150 : decode cX9_hear 150 = .ok (.getfield 42, 3) := by decide +kernel
theorem dX9_hear_153 : decode cX9_hear 153 = .ok (.iload 7, 2) := by decide +kernel
theorem dX9_hear_155 : decode cX9_hear 155 = .ok (.iload 6, 2) := by decide +kernel
theorem dX9_hear_157 : decode cX9_hear 157 = .ok (.aload 5, 2) := by decide +kernel
theorem dX9_hear_159 : decode cX9_hear 159 = .ok (.getfield 193, 3) := by decide +kernel
theorem dX9_hear_162 : decode cX9_hear 162 = .ok (.invokevirtual 170, 3) := by decide +kernel
theorem dX9_hear_165 : decode cX9_hear 165 = .ok (.ineg, 1) := by decide +kernel
theorem dX9_hear_166 : decode cX9_hear 166 = .ok (.iastore, 1) := by decide +kernel
theorem dX9_hear_167 : decode cX9_hear 167 = .ok (.aload 5, 2) := by decide +kernel
theorem dX9_hear_169 : decode cX9_hear 169 = .ok (.getfield 196, 3) := by decide +kernel
theorem dX9_hear_172 : decode cX9_hear 172 = .ok (.bipush 6, 2) := by decide +kernel
theorem dX9_hear_174 : decode cX9_hear 174 = .ok (.aload_n 0, 1) := by decide +kernel
theorem dX9_hear_175 : decode cX9_hear 175 = .ok (.getfield 42, 3) := by decide +kernel
theorem dX9_hear_178 : decode cX9_hear 178 = .ok (.iload 6, 2) := by decide +kernel
theorem dX9_hear_180 : decode cX9_hear 180 = .ok (.iload 7, 2) := by decide +kernel
theorem dX9_hear_182 : decode cX9_hear 182 = .ok (.aload 5, 2) := by decide +kernel
theorem dX9_hear_184 : decode cX9_hear 184 = .ok (.getfield 193, 3) := by decide +kernel
theorem dX9_hear_187 : decode cX9_hear 187 = .ok (.invokevirtual 174, 3) := by decide +kernel
theorem dX9_hear_190 : decode cX9_hear 190 = .ok (.iastore, 1) := by decide +kernel
theorem dX9_hear_191 : decode cX9_hear 191 = .ok (.aload 5, 2) := by decide +kernel
theorem dX9_hear_193 : decode cX9_hear 193 = .ok (.aload_n 0, 1) := by decide +kernel
theorem dX9_hear_194 : decode cX9_hear 194 = .ok (.getfield 94, 3) := by decide +kernel
theorem dX9_hear_197 : decode cX9_hear 197 = .ok (.putfield 210, 3) := by decide +kernel
theorem dX9_hear_200 : decode cX9_hear 200 = .ok (.aload 5, 2) := by decide +kernel
theorem dX9_hear_202 : decode cX9_hear 202 = .ok (.aload_n 0, 1) := by decide +kernel
theorem dX9_hear_203 : decode cX9_hear 203 = .ok (.aload 5, 2) := by decide +kernel
theorem dX9_hear_205 : decode cX9_hear 205 = .ok (.aload 5, 2) := by decide +kernel
theorem dX9_hear_207 : decode cX9_hear 207 = .ok (.getfield 226, 3) := by decide +kernel
theorem dX9_hear_210 : decode cX9_hear 210 = .ok (.invokevirtual 229, 3) := by decide +kernel
theorem dX9_hear_213 : decode cX9_hear 213 = .ok (.putfield 233, 3) := by decide +kernel
theorem dX9_hear_216 : decode cX9_hear 216 = .ok (.aload_n 0, 1) := by decide +kernel
theorem dX9_hear_217 : decode cX9_hear 217 = .ok (.getfield 52, 3) := by decide +kernel
theorem dX9_hear_220 : decode cX9_hear 220 = .ok (.aload_n 0, 1) := by decide +kernel
theorem dX9_hear_221 : decode cX9_hear 221 = .ok (.getfield 216, 3) := by decide +kernel
theorem dX9_hear_224 : decode cX9_hear 224 = .ok (.aload 5, 2) := by decide +kernel
theorem dX9_hear_226 : decode cX9_hear 226 = .ok (.aastore, 1) := by decide +kernel
theorem dX9_hear_227 : decode cX9_hear 227 = .ok (.aload_n 0, 1) := by decide +kernel
theorem dX9_hear_228 : decode cX9_hear 228 = .ok (.dup, 1) := by decide +kernel
theorem dX9_hear_229 : decode cX9_hear 229 = .ok (.getfield 216, 3) := by decide +kernel
theorem dX9_hear_232 : decode cX9_hear 232 = .ok (.iconst 1, 1) := by decide +kernel
theorem dX9_hear_233 : decode cX9_hear 233 = .ok (.iadd, 1) := by decide +kernel
theorem dX9_hear_234 : decode cX9_hear 234 = .ok (.putfield 216, 3) := by decide +kernel
theorem dX9_hear_237 : decode cX9_hear 237 = .ok (.aload 5, 2) := by decide +kernel
theorem dX9_hear_239 : decode cX9_hear 239 = .ok (.getfield 233, 3) := by decide +kernel
theorem dX9_hear_242 : decode cX9_hear 242 = .ok (.ireturn, 1) := by decide +kernel
theorem dX9_other_0 : decode cX9_other 0 = .ok (.iload_n 1, 1) := by decide +kernel
theorem dX9_other_1 : decode cX9_other 1 = .ok (.iconst (-1), 1) := by decide +kernel
theorem dX9_other_2 : decode cX9_other 2 = .ok (.if_icmp .lt 22, 3) := by decide +kernel
theorem dX9_other_5 : decode cX9_other 5 = .ok (.iload_n 1, 1) := by decide +kernel
theorem dX9_other_6 : decode cX9_other 6 = .ok (.aload_n 0, 1) := by decide +kernel
theorem dX9_other_7 : decode cX9_other 7 = .ok (.getfield 105, 3) := by decide +kernel
theorem dX9_other_10 : decode cX9_other 10 = .ok (.if_icmp .ge 14, 3) := by decide +kernel
theorem dX9_other_13 : decode cX9_other 13 = .ok (.iload_n 2, 1) := by decide +kernel
theorem dX9_other_14 : decode cX9_other 14 = .ok (.iconst 1, 1) := by decide +kernel
theorem dX9_other_15 : decode cX9_other 15 = .ok (.if_icmp .lt 9, 3) := by decide +kernel
theorem dX9_other_18 : decode cX9_other 18 = .ok (.iload_n 2, 1) := by decide +kernel
theorem dX9_other_19 : decode cX9_other 19 = .ok (.bipush 6, 2) := by decide +kernel
theorem dX9_other_21 : decode cX9_other 21 = .ok (.if_icmp .le 5, 3) := by decide +kernel
theorem dX9_other_24 : decode cX9_other 24 = .ok (.iconst (-1), 1) := by decide +kernel
theorem dX9_other_25 : decode cX9_other 25 = .ok (.ireturn, 1) := by decide +kernel
theorem dX9_other_26 : decode cX9_other 26 = .ok (.iload_n 1, 1) := by decide +kernel
theorem dX9_other_27 : decode cX9_other 27 = .ok (.iconst (-1), 1) := by decide +kernel
theorem dX9_other_28 : decode cX9_other 28 = .ok (.if_icmp .ne 10, 3) := by decide +kernel
theorem dX9_other_31 : decode cX9_other 31 = .ok (.aload_n 0, 1) := by decide +kernel
theorem dX9_other_32 : decode cX9_other 32 = .ok (.getfield 25, 3) := by decide +kernel
theorem dX9_other_35 : decode cX9_other 35 = .ok (.goto 9, 3) := by decide +kernel
theorem dX9_other_38 : decode cX9_other 38 = .ok (.aload_n 0, 1) := by decide +kernel
theorem dX9_other_39 : decode cX9_other 39 = .ok (.getfield 29, 3) := by decide +kernel
theorem dX9_other_42 : decode cX9_other 42 = .ok (.iload_n 1, 1) := by decide +kernel
theorem dX9_other_43 : decode cX9_other 43 = .ok (.aaload, 1) := by decide +kernel
theorem dX9_other_44 : decode cX9_other 44 = .ok (.astore_n 3, 1) := by decide +kernel
theorem dX9_other_45 : decode cX9_other 45 = .ok (.iconst 0, 1) := by decide +kernel
theorem dX9_other_46 : decode cX9_other 46 = .ok (.istore 4, 2) := by decide +kernel
theorem dX9_other_48 : decode cX9_other 48 = .ok (.iconst 0, 1) := by decide +kernel
theorem dX9_other_49 : decode cX9_other 49 = .ok (.istore 5, 2) := by decide +kernel
theorem dX9_other_51 : decode cX9_other 51 = .ok (.iconst 0, 1) := by decide +kernel
theorem dX9_other_52 : decode cX9_other 52 = .ok (.istore 6, 2) := by decide +kernel
theorem dX9_other_54 : decode cX9_other 54 = .ok (.iload 6, 2) := by decide +kernel
theorem dX9_other_56 : decode cX9_other 56 = .ok (.aload_n 0, 1) := by decide +kernel
theorem dX9_other_57 : decode cX9_other 57 = .ok (.getfield 216, 3) := by decide +kernel
theorem dX9_other_60 : decode cX9_other 60 = .ok (.if_icmp .ge 66, 3) := by decide +kernel
theorem dX9_other_63 : decode cX9_other 63 = .ok (.aload_n 0, 1) := by decide +kernel
theorem dX9_other_64 : decode cX9_other 64 = .ok (.aload_n 0, 1) := by decide +kernel
theorem dX9_other_65 : decode cX9_other 65 = .ok (.getfield 52, 3) := by decide +kernel
theorem dX9_other_68 : decode cX9_other 68 = .ok (.iload 6, 2) := by decide +kernel
theorem dX9_other_70 : decode cX9_other 70 = .ok (.aaload, 1) := by decide +kernel
theorem dX9_other_71 : decode cX9_other 71 = .ok (.aload_n 3, 1) := by decide +kernel
theorem dX9_other_72 : decode cX9_other 72 = .ok (.invokevirtual 229, 3) := by decide +kernel
theorem dX9_other_75 : decode cX9_other 75 = .ok (.istore 7, 2) := by decide +kernel
theorem dX9_other_77 : decode cX9_other 77 = .ok (.iload 4, 2) := by decide +kernel
theorem dX9_other_79 : decode cX9_other 79 = .ok (.iload 7, 2) := by decide +kernel
theorem dX9_other_81 : decode cX9_other 81 = .ok (.iload_n 2, 1) := by decide +kernel
theorem dX9_other_82 : decode cX9_other 82 = .ok (.if_icmp .ne 7, 3) := by decide +kernel
theorem dX9_other_85 : decode cX9_other 85 = .ok (.iconst 1, 1) := by decide +kernel
theorem dX9_other_86 : decode cX9_other 86 = .ok (.goto 4, 3) := by decide +kernel
theorem dX9_other_89 : decode cX9_other 89 = .ok (.iconst 0, 1) := by decide +kernel
theorem dX9_other_90 : decode cX9_other 90 = .ok (.iadd, 1) := by decide +kernel
theorem dX9_other_91 : decode cX9_other 91 = .ok (.istore 4, 2) := by decide +kernel
theorem dX9_other_93 : decode cX9_other 93 = .ok (.iload 5, 2) := by decide +kernel
theorem dX9_other_95 : decode cX9_other 95 = .ok (.aload_n 0, 1) := by decide +kernel
theorem dX9_other_96 : decode cX9_other 96 = .ok (.getfield 52, 3) := by decide +kernel
theorem dX9_other_99 : decode cX9_other 99 = .ok (.iload 6, 2) := by decide +kernel
theorem dX9_other_101 : decode cX9_other 101 = .ok (.aaload, 1) := by decide +kernel
theorem dX9_other_102 : decode cX9_other 102 = .ok (.aload_n 3, 1) := by decide +kernel
theorem dX9_other_103 : decode cX9_other 103 = .ok (.iload 7, 2) := by decide +kernel
theorem dX9_other_105 : decode cX9_other 105 = .ok (.iconst 5, 1) := by decide +kernel
theorem dX9_other_106 : decode cX9_other 106 = .ok (.if_icmp .ne 7, 3) := by decide +kernel
theorem dX9_other_109 : decode cX9_other 109 = .ok (.iconst 1, 1) := by decide +kernel
theorem dX9_other_110 : decode cX9_other 110 = .ok (.goto 4, 3) := by decide +kernel
theorem dX9_other_113 : decode cX9_other 113 = .ok (.iconst 0, 1) := by decide +kernel
theorem dX9_other_114 : decode cX9_other 114 = .ok (.invokevirtual 256, 3) := by decide +kernel
theorem dX9_other_117 : decode cX9_other 117 = .ok (.iadd, 1) := by decide +kernel
theorem dX9_other_118 : decode cX9_other 118 = .ok (.istore 5, 2) := by decide +kernel
theorem dX9_other_120 : decode cX9_other 120 = .ok (.iinc 6 1, 3) := by decide +kernel
theorem dX9_other_123 : decode cX9_other 123 = .ok (.goto (-69), 3) := by decide +kernel
theorem dX9_other_126 : decode cX9_other 126 = .ok (.iload_n 2, 1) := by decide +kernel
theorem dX9_other_127 : decode cX9_other 127 = .ok (.iconst 5, 1) := by decide +kernel
theorem dX9_other_128 : decode cX9_other 128 = .ok (.if_icmp .le 8, 3) := by decide +kernel
theorem dX9_other_131 : decode cX9_other 131 = .ok (.iload 5, 2) := by decide +kernel
theorem dX9_other_133 : decode cX9_other 133 = .ok (.goto 5, 3) := by decide +kernel
theorem dX9_other_136 : decode cX9_other 136 = .ok (.iload 4, 2) := by decide +kernel
theorem dX9_other_138 : decode cX9_other 138 = .ok (.ireturn, 1) := by decide +kernel
theorem dX9_person_0 : decode cX9_person 0 = .ok (.aload_n 0, 1) := by decide +kernel
theorem dX9_person_1 : decode cX9_person 1 = .ok (.getfield 125, 3) := by decide +kernel
theorem dX9_person_4 : decode cX9_person 4 = .ok (.bipush 40, 2) := by decide +kernel
theorem dX9_person_6 : decode cX9_person 6 = .ok (.if_icmp .ge 39, 3) := by decide +kernel
theorem dX9_person_9 : decode cX9_person 9 = .ok (.iload_n 1, 1) := by decide +kernel
theorem dX9_person_10 : decode cX9_person 10 = .ok (.sipush (-30000), 3) := by decide +kernel
theorem dX9_person_13 : decode cX9_person 13 = .ok (.sipush 7999, 3) := by decide +kernel
theorem dX9_person_16 : decode cX9_person 16 = .ok (.invokestatic 128, 3) := by decide +kernel
theorem dX9_person_19 : decode cX9_person 19 = .ok (.ifCond .eq 26, 3) := by decide +kernel
theorem dX9_person_22 : decode cX9_person 22 = .ok (.iload_n 2, 1) := by decide +kernel
theorem dX9_person_23 : decode cX9_person 23 = .ok (.iload_n 3, 1) := by decide +kernel
theorem dX9_person_24 : decode cX9_person 24 = .ok (.iload 4, 2) := by decide +kernel
theorem dX9_person_26 : decode cX9_person 26 = .ok (.iload 5, 2) := by decide +kernel
theorem dX9_person_28 : decode cX9_person 28 = .ok (.invokestatic 132, 3) := by decide +kernel
theorem dX9_person_31 : decode cX9_person 31 = .ok (.ifCond .eq 14, 3) := by decide +kernel
theorem dX9_person_34 : decode cX9_person 34 = .ok (.iload 6, 2) := by decide +kernel
theorem dX9_person_36 : decode cX9_person 36 = .ok (.iconst (-1), 1) := by decide +kernel
theorem dX9_person_37 : decode cX9_person 37 = .ok (.bipush 19, 2) := by decide +kernel
theorem dX9_person_39 : decode cX9_person 39 = .ok (.invokestatic 128, 3) := by decide +kernel
theorem dX9_person_42 : decode cX9_person 42 = .ok (.ifCond .ne 5, 3) := by decide +kernel
theorem dX9_person_45 : decode cX9_person 45 = .ok (.iconst (-1), 1) := by decide +kernel
theorem dX9_person_46 : decode cX9_person 46 = .ok (.ireturn, 1) := by decide +kernel
theorem dX9_person_47 : decode cX9_person 47 = .ok (.new 33, 3) := by decide +kernel
theorem dX9_person_50 : decode cX9_person 50 = .ok (.dup, 1) := by decide +kernel
theorem dX9_person_51 : decode cX9_person 51 = .ok (.aload_n 0, 1) := by decide +kernel
theorem dX9_person_52 : decode cX9_person 52 = .ok (.getfield 125, 3) := by decide +kernel
theorem dX9_person_55 : decode cX9_person 55 = .ok (.iload_n 1, 1) := by decide +kernel
theorem dX9_person_56 : decode cX9_person 56 = .ok (.iload 6, 2) := by decide +kernel
theorem dX9_person_58 : decode cX9_person 58 = .ok (.invokespecial 136, 3) := by decide +kernel
theorem dX9_person_61 : decode cX9_person 61 = .ok (.astore 7, 2) := by decide +kernel
theorem dX9_person_63 : decode cX9_person 63 = .ok (.aload 7, 2) := by decide +kernel
theorem dX9_person_65 : decode cX9_person 65 = .ok (.iload_n 2, 1) := by decide +kernel
theorem dX9_person_66 : decode cX9_person 66 = .ok (.iload_n 3, 1) := by decide +kernel
theorem dX9_person_67 : decode cX9_person 67 = .ok (.iload 4, 2) := by decide +kernel
theorem dX9_person_69 : decode cX9_person 69 = .ok (.iload 5, 2) := by decide +kernel
theorem dX9_person_71 : decode cX9_person 71 = .ok (.invokevirtual 139, 3) := by decide +kernel
theorem dX9_person_74 : decode cX9_person 74 = .ok (.aload_n 0, 1) := by decide +kernel
theorem dX9_person_75 : decode cX9_person 75 = .ok (.getfield 35, 3) := by decide +kernel
theorem dX9_person_78 : decode cX9_person 78 = .ok (.aload_n 0, 1) := by decide +kernel
theorem dX9_person_79 : decode cX9_person 79 = .ok (.getfield 125, 3) := by decide +kernel
theorem dX9_person_82 : decode cX9_person 82 = .ok (.aload 7, 2) := by decide +kernel
theorem dX9_person_84 : decode cX9_person 84 = .ok (.aastore, 1) := by decide +kernel
theorem dX9_person_85 : decode cX9_person 85 = .ok (.aload_n 0, 1) := by decide +kernel
theorem dX9_person_86 : decode cX9_person 86 = .ok (.dup, 1) := by decide +kernel
theorem dX9_person_87 : decode cX9_person 87 = .ok (.getfield 125, 3) := by decide +kernel
theorem dX9_person_90 : decode cX9_person 90 = .ok (.iconst 1, 1) := by decide +kernel
theorem dX9_person_91 : decode cX9_person 91 = .ok (.iadd, 1) := by decide +kernel
theorem dX9_person_92 : decode cX9_person 92 = .ok (.putfield 125, 3) := by decide +kernel
theorem dX9_person_95 : decode cX9_person 95 = .ok (.aload 7, 2) := by decide +kernel
theorem dX9_person_97 : decode cX9_person 97 = .ok (.getfield 143, 3) := by decide +kernel
theorem dX9_person_100 : decode cX9_person 100 = .ok (.ireturn, 1) := by decide +kernel