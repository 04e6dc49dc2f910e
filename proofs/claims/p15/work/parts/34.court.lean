theorem dX9_file_0 : decode cX9_file 0 = .ok (.aload_n 0, 1) := by decide +kernel
theorem dX9_file_1 : decode cX9_file 1 = .ok (.iload_n 1, 1) := by decide +kernel
theorem dX9_file_2 : decode cX9_file 2 = .ok (.invokevirtual 144, 3) := by decide +kernel
theorem dX9_file_5 : decode cX9_file 5 = .ok (.astore 7, 2) := by decide +kernel
theorem dX9_file_7 : decode cX9_file 7 = .ok (.aload_n 0, 1) := by decide +kernel
theorem dX9_file_8 : decode cX9_file 8 = .ok (.iload_n 2, 1) := by decide +kernel
theorem dX9_file_9 : decode cX9_file 9 = .ok (.invokevirtual 144, 3) := by decide +kernel
theorem dX9_file_12 : decode cX9_file 12 = .ok (.astore 8, 2) := by decide +kernel
theorem dX9_file_14 : decode cX9_file 14 = .ok (.aload_n 0, 1) := by decide +kernel
theorem dX9_file_15 : decode cX9_file 15 = .ok (.getfield 181, 3) := by decide +kernel
theorem dX9_file_18 : decode cX9_file 18 = .ok (.bipush 100, 2) := by decide +kernel
theorem dX9_file_20 : decode cX9_file 20 = .ok (.if_icmp .ge 61, 3) := by decide +kernel
theorem dX9_file_23 : decode cX9_file 23 = .ok (.aload 7, 2) := by decide +kernel
theorem dX9_file_25 : decode cX9_file 25 = .ok (.ifnull 56, 3) := by decide +kernel
theorem dX9_file_28 : decode cX9_file 28 = .ok (.aload 8, 2) := by decide +kernel
theorem dX9_file_30 : decode cX9_file 30 = .ok (.ifnull 51, 3) := by decide +kernel
theorem dX9_file_33 : decode cX9_file 33 = .ok (.iload_n 1, 1) := by decide +kernel
theorem dX9_file_34 : decode cX9_file 34 = .ok (.iload_n 2, 1) := by decide +kernel
theorem dX9_file_35 : decode cX9_file 35 = .ok (.if_icmp .eq 46, 3) := by decide +kernel
theorem dX9_file_38 : decode cX9_file 38 = .ok (.aload 8, 2) := by decide +kernel
theorem dX9_file_40 : decode cX9_file 40 = .ok (.getfield 148, 3) := by decide +kernel
theorem dX9_file_43 : decode cX9_file 43 = .ok (.ifCond .ne 38, 3) := by decide +kernel
theorem dX9_file_46 : decode cX9_file 46 = .ok (.iload_n 3, 1) := by decide +kernel
theorem dX9_file_47 : decode cX9_file 47 = .ok (.iconst 1, 1) := by decide +kernel
theorem dX9_file_48 : decode cX9_file 48 = .ok (.sipush 9999, 3) := by decide +kernel
theorem dX9_file_51 : decode cX9_file 51 = .ok (.invokestatic 128, 3) := by decide +kernel
theorem dX9_file_54 : decode cX9_file 54 = .ok (.ifCond .eq 27, 3) := by decide +kernel
theorem dX9_file_57 : decode cX9_file 57 = .ok (.iload 4, 2) := by decide +kernel
theorem dX9_file_59 : decode cX9_file 59 = .ok (.iconst 0, 1) := by decide +kernel
theorem dX9_file_60 : decode cX9_file 60 = .ok (.aload_n 0, 1) := by decide +kernel
theorem dX9_file_61 : decode cX9_file 61 = .ok (.getfield 94, 3) := by decide +kernel
theorem dX9_file_64 : decode cX9_file 64 = .ok (.invokestatic 128, 3) := by decide +kernel
theorem dX9_file_67 : decode cX9_file 67 = .ok (.ifCond .eq 14, 3) := by decide +kernel
theorem dX9_file_70 : decode cX9_file 70 = .ok (.iload 6, 2) := by decide +kernel
theorem dX9_file_72 : decode cX9_file 72 = .ok (.iconst 0, 1) := by decide +kernel
theorem dX9_file_73 : decode cX9_file 73 = .ok (.bipush 9, 2) := by decide +kernel
theorem dX9_file_75 : decode cX9_file 75 = .ok (.invokestatic 128, 3) := by decide +kernel
theorem dX9_file_78 : decode cX9_file 78 = .ok (.ifCond .ne 5, 3) := by decide +kernel
theorem dX9_file_81 : decode cX9_file 81 = .ok (.iconst (-1), 1) := by decide +kernel
theorem dX9_file_82 : decode cX9_file 82 = .ok (.ireturn, 1) := by decide +kernel
theorem dX9_file_83 : decode cX9_file 83 = .ok (.new 46, 3) := by decide +kernel
theorem dX9_file_86 : decode cX9_file 86 = .ok (.dup, 1) := by decide +kernel
theorem dX9_file_87 : decode cX9_file 87 = .ok (.aload_n 0, 1) := by decide +kernel
theorem dX9_file_88 : decode cX9_file 88 = .ok (.getfield 181, 3) := by decide +kernel
theorem dX9_file_91 : decode cX9_file 91 = .ok (.aload 7, 2) := by decide +kernel
theorem dX9_file_93 : decode cX9_file 93 = .ok (.aload 8, 2) := by decide +kernel
theorem dX9_file_95 : decode cX9_file 95 = .ok (.aload_n 0, 1) := by decide +kernel
theorem dX9_file_96 : decode cX9_file 96 = .ok (.aload_n 0, 1) := by decide +kernel
theorem dX9_file_97 : decode cX9_file 97 = .ok (.getfield 94, 3) := by decide +kernel
theorem dX9_file_100 : decode cX9_file 100 = .ok (.invokevirtual 115, 3) := by decide +kernel
theorem dX9_file_103 : decode cX9_file 103 = .ok (.invokespecial 184, 3) := by decide +kernel
theorem dX9_file_106 : decode cX9_file 106 = .ok (.astore 9, 2) := by decide +kernel
theorem dX9_file_108 : decode cX9_file 108 = .ok (.aload 9, 2) := by decide +kernel
theorem dX9_file_110 : decode cX9_file 110 = .ok (.iload_n 3, 1) := by decide +kernel
theorem dX9_file_111 : decode cX9_file 111 = .ok (.putfield 187, 3) := by decide +kernel
theorem dX9_file_114 : decode cX9_file 114 = .ok (.aload 9, 2) := by decide +kernel
theorem dX9_file_116 : decode cX9_file 116 = .ok (.iload 4, 2) := by decide +kernel
theorem dX9_file_118 : decode cX9_file 118 = .ok (.putfield 190, 3) := by decide +kernel
theorem dX9_file_121 : decode cX9_file 121 = .ok (.aload 9, 2) := by decide +kernel
theorem dX9_file_123 : decode cX9_file 123 = .ok (.aload_n 0, 1) := by decide +kernel
theorem dX9_file_124 : decode cX9_file 124 = .ok (.getfield 94, 3) := by decide +kernel
theorem dX9_file_127 : decode cX9_file 127 = .ok (.putfield 193, 3) := by decide +kernel
theorem dX9_file_130 : decode cX9_file 130 = .ok (.aload 9, 2) := by decide +kernel
theorem dX9_file_132 : decode cX9_file 132 = .ok (.getfield 196, 3) := by decide +kernel
theorem dX9_file_135 : decode cX9_file 135 = .ok (.iconst 2, 1) := by decide +kernel
theorem dX9_file_136 : decode cX9_file 136 = .ok (.iload 5, 2) := by decide +kernel
theorem dX9_file_138 : decode cX9_file 138 = .ok (.ifCond .eq 7, 3) := by decide +kernel
theorem dX9_file_141 : decode cX9_file 141 = .ok (.iconst 1, 1) := by decide +kernel
theorem dX9_file_142 : decode cX9_file 142 = .ok (.goto 4, 3) := by decide +kernel
theorem dX9_file_145 : decode cX9_file 145 = .ok (.iconst 0, 1) := by decide +kernel
theorem dX9_file_146 : decode cX9_file 146 = .ok (.iastore, 1) := by decide +kernel
theorem dX9_file_147 : decode cX9_file 147 = .ok (.aload 9, 2) := by decide +kernel
theorem dX9_file_149 : decode cX9_file 149 = .ok (.getfield 196, 3) := by decide +kernel
theorem dX9_file_152 : decode cX9_file 152 = .ok (.iconst 3, 1) := by decide +kernel
theorem dX9_file_153 : decode cX9_file 153 = .ok (.iload 6, 2) := by decide +kernel
theorem dX9_file_155 : decode cX9_file 155 = .ok (.iastore, 1) := by decide +kernel
theorem dX9_file_156 : decode cX9_file 156 = .ok (.aload 9, 2) := by decide +kernel
theorem dX9_file_158 : decode cX9_file 158 = .ok (.getfield 196, 3) := by decide +kernel
theorem dX9_file_161 : decode cX9_file 161 = .ok (.bipush 7, 2) := by decide +kernel
theorem dX9_file_163 : decode cX9_file 163 = .ok (.iload_n 3, 1) := by decide +kernel
theorem dX9_file_164 : decode cX9_file 164 = .ok (.iastore, 1) := by decide +kernel
theorem dX9_file_165 : decode cX9_file 165 = .ok (.aload_n 0, 1) := by decide +kernel
theorem dX9_file_166 : decode cX9_file 166 = .ok (.getfield 48, 3) := by decide +kernel
theorem dX9_file_169 : decode cX9_file 169 = .ok (.aload_n 0, 1) := by decide +kernel
theorem dX9_file_170 : decode cX9_file 170 = .ok (.getfield 181, 3) := by decide +kernel
theorem dX9_file_173 : decode cX9_file 173 = .ok (.aload 9, 2) := by decide +kernel
theorem dX9_file_175 : decode cX9_file 175 = .ok (.aastore, 1) := by decide +kernel
theorem dX9_file_176 : decode cX9_file 176 = .ok (.aload_n 0, 1) := by decide +kernel
theorem dX9_file_177 : decode cX9_file 177 = .ok (.dup, 1) := by decide +kernel
theorem dX9_file_178 : decode cX9_file 178 = .ok (.getfield 181, 3) := by decide +kernel
theorem dX9_file_181 : decode cX9_file 181 = .ok (.iconst 1, 1) := by decide +kernel
theorem dX9_file_182 : decode cX9_file 182 = .ok (.iadd, 1) := by decide +kernel
theorem dX9_file_183 : decode cX9_file 183 = .ok (.putfield 181, 3) := by decide +kernel
theorem dX9_file_186 : decode cX9_file 186 = .ok (.aload 9, 2) := by decide +kernel
theorem dX9_file_188 : decode cX9_file 188 = .ok (.getfield 199, 3) := by decide +kernel
theorem dX9_file_191 : decode cX9_file 191 = .ok (.ireturn, 1) := by decide +kernel