theorem dX10_finds_82 : decode cX10_finds 82 = .ok (.if_icmp .ge 132, 3) := by decide +kernel
theorem dX10_finds_85 : decode cX10_finds 85 = .ok (.iload_n 3, 1) := by decide +kernel
theorem dX10_finds_86 : decode cX10_finds 86 = .ok (.aload_n 0, 1) := by decide +kernel
theorem dX10_finds_87 : decode cX10_finds 87 = .ok (.getfield 189, 3) := by decide +kernel
theorem dX10_finds_90 : decode cX10_finds 90 = .ok (.bipush 40, 2) := by decide +kernel
theorem dX10_finds_92 : decode cX10_finds 92 = .ok (.iload_n 2, 1) := by decide +kernel
theorem dX10_finds_93 : decode cX10_finds 93 = .ok (.imul, 1) := by decide +kernel
theorem dX10_finds_94 : decode cX10_finds 94 = .ok (.iload 4, 2) := by decide +kernel
theorem dX10_finds_96 : decode cX10_finds 96 = .ok (.iadd, 1) := by decide +kernel
theorem dX10_finds_97 : decode cX10_finds 97 = .ok (.iaload, 1) := by decide +kernel
theorem dX10_finds_98 : decode cX10_finds 98 = .ok (.invokestatic 448, 3) := by decide +kernel
theorem dX10_finds_101 : decode cX10_finds 101 = .ok (.istore 5, 2) := by decide +kernel
theorem dX10_finds_103 : decode cX10_finds 103 = .ok (.iload 4, 2) := by decide +kernel
theorem dX10_finds_105 : decode cX10_finds 105 = .ok (.iload_n 2, 1) := by decide +kernel
theorem dX10_finds_106 : decode cX10_finds 106 = .ok (.if_icmp .eq 102, 3) := by decide +kernel
theorem dX10_finds_109 : decode cX10_finds 109 = .ok (.iload 5, 2) := by decide +kernel
theorem dX10_finds_111 : decode cX10_finds 111 = .ok (.ifCond .ne 6, 3) := by decide +kernel
theorem dX10_finds_114 : decode cX10_finds 114 = .ok (.goto 94, 3) := by decide +kernel
theorem dX10_finds_117 : decode cX10_finds 117 = .ok (.aload_n 0, 1) := by decide +kernel
theorem dX10_finds_118 : decode cX10_finds 118 = .ok (.getfield 198, 3) := by decide +kernel
theorem dX10_finds_121 : decode cX10_finds 121 = .ok (.iconst 2, 1) := by decide +kernel
theorem dX10_finds_122 : decode cX10_finds 122 = .ok (.iload 4, 2) := by decide +kernel
theorem dX10_finds_124 : decode cX10_finds 124 = .ok (.iastore, 1) := by decide +kernel
theorem dX10_finds_125 : decode cX10_finds 125 = .ok (.aload_n 0, 1) := by decide +kernel
theorem dX10_finds_126 : decode cX10_finds 126 = .ok (.iconst 3, 1) := by decide +kernel
theorem dX10_finds_127 : decode cX10_finds 127 = .ok (.iload 5, 2) := by decide +kernel
theorem dX10_finds_129 : decode cX10_finds 129 = .ok (.invokevirtual 444, 3) := by decide +kernel
theorem dX10_finds_132 : decode cX10_finds 132 = .ok (.iload_n 1, 1) := by decide +kernel
theorem dX10_finds_133 : decode cX10_finds 133 = .ok (.iconst 1, 1) := by decide +kernel
theorem dX10_finds_134 : decode cX10_finds 134 = .ok (.iadd, 1) := by decide +kernel
theorem dX10_finds_135 : decode cX10_finds 135 = .ok (.istore 6, 2) := by decide +kernel
theorem dX10_finds_137 : decode cX10_finds 137 = .ok (.iload 6, 2) := by decide +kernel
theorem dX10_finds_139 : decode cX10_finds 139 = .ok (.aload_n 0, 1) := by decide +kernel
theorem dX10_finds_140 : decode cX10_finds 140 = .ok (.getfield 337, 3) := by decide +kernel
theorem dX10_finds_143 : decode cX10_finds 143 = .ok (.if_icmp .ge 65, 3) := by decide +kernel
theorem dX10_finds_146 : decode cX10_finds 146 = .ok (.iload 5, 2) := by decide +kernel
theorem dX10_finds_148 : decode cX10_finds 148 = .ok (.aload_n 0, 1) := by decide +kernel
theorem dX10_finds_149 : decode cX10_finds 149 = .ok (.getfield 189, 3) := by decide +kernel
theorem dX10_finds_152 : decode cX10_finds 152 = .ok (.bipush 40, 2) := by decide +kernel
theorem dX10_finds_154 : decode cX10_finds 154 = .ok (.iload 4, 2) := by decide +kernel
theorem dX10_finds_156 : decode cX10_finds 156 = .ok (.imul, 1) := by decide +kernel
theorem dX10_finds_157 : decode cX10_finds 157 = .ok (.iload 6, 2) := by decide +kernel
theorem dX10_finds_159 : decode cX10_finds 159 = .ok (.iadd, 1) := by decide +kernel
theorem dX10_finds_160 : decode cX10_finds 160 = .ok (.iaload, 1) := by decide +kernel
theorem dX10_finds_161 : decode cX10_finds 161 = .ok (.invokestatic 448, 3) := by decide +kernel
theorem dX10_finds_164 : decode cX10_finds 164 = .ok (.istore 7, 2) := by decide +kernel
theorem dX10_finds_166 : decode cX10_finds 166 = .ok (.iload 6, 2) := by decide +kernel
theorem dX10_finds_168 : decode cX10_finds 168 = .ok (.iload_n 2, 1) := by decide +kernel
theorem dX10_finds_169 : decode cX10_finds 169 = .ok (.if_icmp .eq 33, 3) := by decide +kernel
theorem dX10_finds_172 : decode cX10_finds 172 = .ok (.iload 6, 2) := by decide +kernel
theorem dX10_finds_174 : decode cX10_finds 174 = .ok (.iload 4, 2) := by decide +kernel
theorem dX10_finds_176 : decode cX10_finds 176 = .ok (.if_icmp .eq 26, 3) := by decide +kernel
theorem dX10_finds_179 : decode cX10_finds 179 = .ok (.iload 7, 2) := by decide +kernel
theorem dX10_finds_181 : decode cX10_finds 181 = .ok (.ifCond .ne 6, 3) := by decide +kernel
theorem dX10_finds_184 : decode cX10_finds 184 = .ok (.goto 18, 3) := by decide +kernel
theorem dX10_finds_187 : decode cX10_finds 187 = .ok (.aload_n 0, 1) := by decide +kernel
theorem dX10_finds_188 : decode cX10_finds 188 = .ok (.getfield 198, 3) := by decide +kernel
theorem dX10_finds_191 : decode cX10_finds 191 = .ok (.iconst 3, 1) := by decide +kernel
theorem dX10_finds_192 : decode cX10_finds 192 = .ok (.iload 6, 2) := by decide +kernel
theorem dX10_finds_194 : decode cX10_finds 194 = .ok (.iastore, 1) := by decide +kernel
theorem dX10_finds_195 : decode cX10_finds 195 = .ok (.aload_n 0, 1) := by decide +kernel
theorem dX10_finds_196 : decode cX10_finds 196 = .ok (.iconst 4, 1) := by decide +kernel
theorem dX10_finds_197 : decode cX10_finds 197 = .ok (.iload 7, 2) := by decide +kernel
theorem dX10_finds_199 : decode cX10_finds 199 = .ok (.invokevirtual 444, 3) := by decide +kernel
theorem dX10_finds_202 : decode cX10_finds 202 = .ok (.iinc 6 1, 3) := by decide +kernel
theorem dX10_finds_205 : decode cX10_finds 205 = .ok (.goto (-68), 3) := by decide +kernel
theorem dX10_finds_208 : decode cX10_finds 208 = .ok (.iinc 4 1, 3) := by decide +kernel
theorem dX10_finds_211 : decode cX10_finds 211 = .ok (.goto (-135), 3) := by decide +kernel
theorem dX10_finds_214 : decode cX10_finds 214 = .ok (.iinc 2 1, 3) := by decide +kernel
theorem dX10_finds_217 : decode cX10_finds 217 = .ok (.goto (-186), 3) := by decide +kernel
theorem dX10_finds_220 : decode cX10_finds 220 = .ok (.iinc 1 1, 3) := by decide +kernel
theorem dX10_finds_223 : decode cX10_finds 223 = .ok (.goto (-211), 3) := by decide +kernel
theorem dX10_finds_226 : decode cX10_finds 226 = .ok (.return_, 1) := by decide +kernel
theorem dX10_takes_0 : decode cX10_takes 0 = .ok (.iload_n 3, 1) := by decide +kernel
theorem dX10_takes_1 : decode cX10_takes 1 = .ok (.istore 5, 2) := by decide +kernel
theorem dX10_takes_3 : decode cX10_takes 3 = .ok (.iconst 0, 1) := by decide +kernel
theorem dX10_takes_4 : decode cX10_takes 4 = .ok (.istore 6, 2) := by decide +kernel
theorem dX10_takes_6 : decode cX10_takes 6 = .ok (.iconst 0, 1) := by decide +kernel
theorem dX10_takes_7 : decode cX10_takes 7 = .ok (.istore 7, 2) := by decide +kernel
theorem dX10_takes_9 : decode cX10_takes 9 = .ok (.iload 7, 2) := by decide +kernel
theorem dX10_takes_11 : decode cX10_takes 11 = .ok (.aload_n 0, 1) := by decide +kernel
theorem dX10_takes_12 : decode cX10_takes 12 = .ok (.getfield 367, 3) := by decide +kernel
theorem dX10_takes_15 : decode cX10_takes 15 = .ok (.if_icmp .ge 87, 3) := by decide +kernel
theorem dX10_takes_18 : decode cX10_takes 18 = .ok (.iload 5, 2) := by decide +kernel
theorem dX10_takes_20 : decode cX10_takes 20 = .ok (.ifCond .le 82, 3) := by decide +kernel
theorem dX10_takes_23 : decode cX10_takes 23 = .ok (.aload_n 0, 1) := by decide +kernel
theorem dX10_takes_24 : decode cX10_takes 24 = .ok (.getfield 84, 3) := by decide +kernel
theorem dX10_takes_27 : decode cX10_takes 27 = .ok (.iload 7, 2) := by decide +kernel
theorem dX10_takes_29 : decode cX10_takes 29 = .ok (.iaload, 1) := by decide +kernel
theorem dX10_takes_30 : decode cX10_takes 30 = .ok (.iload_n 1, 1) := by decide +kernel
theorem dX10_takes_31 : decode cX10_takes 31 = .ok (.if_icmp .ne 65, 3) := by decide +kernel
theorem dX10_takes_34 : decode cX10_takes 34 = .ok (.aload_n 0, 1) := by decide +kernel
theorem dX10_takes_35 : decode cX10_takes 35 = .ok (.getfield 81, 3) := by decide +kernel
theorem dX10_takes_38 : decode cX10_takes 38 = .ok (.iload 7, 2) := by decide +kernel
theorem dX10_takes_40 : decode cX10_takes 40 = .ok (.iaload, 1) := by decide +kernel
theorem dX10_takes_41 : decode cX10_takes 41 = .ok (.iload_n 2, 1) := by decide +kernel
theorem dX10_takes_42 : decode cX10_takes 42 = .ok (.if_icmp .ne 54, 3) := by decide +kernel
theorem dX10_takes_45 : decode cX10_takes 45 = .ok (.aload_n 0, 1) := by decide +kernel
theorem dX10_takes_46 : decode cX10_takes 46 = .ok (.iload 7, 2) := by decide +kernel
theorem dX10_takes_48 : decode cX10_takes 48 = .ok (.invokevirtual 419, 3) := by decide +kernel
theorem dX10_takes_51 : decode cX10_takes 51 = .ok (.ifCond .ne 6, 3) := by decide +kernel
theorem dX10_takes_54 : decode cX10_takes 54 = .ok (.goto 42, 3) := by decide +kernel
theorem dX10_takes_57 : decode cX10_takes 57 = .ok (.iload 5, 2) := by decide +kernel
theorem dX10_takes_59 : decode cX10_takes 59 = .ok (.aload_n 0, 1) := by decide +kernel
theorem dX10_takes_60 : decode cX10_takes 60 = .ok (.getfield 401, 3) := by decide +kernel
theorem dX10_takes_63 : decode cX10_takes 63 = .ok (.invokestatic 448, 3) := by decide +kernel
theorem dX10_takes_66 : decode cX10_takes 66 = .ok (.istore 8, 2) := by decide +kernel
theorem dX10_takes_68 : decode cX10_takes 68 = .ok (.iload 4, 2) := by decide +kernel
theorem dX10_takes_70 : decode cX10_takes 70 = .ok (.ifCond .eq 16, 3) := by decide +kernel
theorem dX10_takes_73 : decode cX10_takes 73 = .ok (.aload_n 0, 1) := by decide +kernel
theorem dX10_takes_74 : decode cX10_takes 74 = .ok (.iload 7, 2) := by decide +kernel
theorem dX10_takes_76 : decode cX10_takes 76 = .ok (.aload_n 0, 1) := by decide +kernel
theorem dX10_takes_77 : decode cX10_takes 77 = .ok (.getfield 232, 3) := by decide +kernel
theorem dX10_takes_80 : decode cX10_takes 80 = .ok (.iload 8, 2) := by decide +kernel
theorem dX10_takes_82 : decode cX10_takes 82 = .ok (.invokevirtual 425, 3) := by decide +kernel
theorem dX10_takes_85 : decode cX10_takes 85 = .ok (.pop, 1) := by decide +kernel
theorem dX10_takes_86 : decode cX10_takes 86 = .ok (.iload 5, 2) := by decide +kernel
theorem dX10_takes_88 : decode cX10_takes 88 = .ok (.iload 8, 2) := by decide +kernel
theorem dX10_takes_90 : decode cX10_takes 90 = .ok (.isub, 1) := by decide +kernel
theorem dX10_takes_91 : decode cX10_takes 91 = .ok (.istore 5, 2) := by decide +kernel
theorem dX10_takes_93 : decode cX10_takes 93 = .ok (.iinc 6 1, 3) := by decide +kernel
theorem dX10_takes_96 : decode cX10_takes 96 = .ok (.iinc 7 1, 3) := by decide +kernel
theorem dX10_takes_99 : decode cX10_takes 99 = .ok (.goto (-90), 3) := by decide +kernel
theorem dX10_takes_102 : decode cX10_takes 102 = .ok (.iload 6, 2) := by decide +kernel
theorem dX10_takes_104 : decode cX10_takes 104 = .ok (.ireturn, 1) := by decide +kernel
theorem dX10_net_0 : decode cX10_net 0 = .ok (.aload_n 0, 1) := by decide +kernel
theorem dX10_net_1 : decode cX10_net 1 = .ok (.iconst 1, 1) := by decide +kernel
theorem dX10_net_2 : decode cX10_net 2 = .ok (.putfield 451, 3) := by decide +kernel
theorem dX10_net_5 : decode cX10_net 5 = .ok (.aload_n 0, 1) := by decide +kernel
theorem dX10_net_6 : decode cX10_net 6 = .ok (.iconst 0, 1) := by decide +kernel
theorem dX10_net_7 : decode cX10_net 7 = .ok (.putfield 455, 3) := by decide +kernel
theorem dX10_net_10 : decode cX10_net 10 = .ok (.iconst 0, 1) := by decide +kernel
theorem dX10_net_11 : decode cX10_net 11 = .ok (.istore_n 1, 1) := by decide +kernel
theorem dX10_net_12 : decode cX10_net 12 = .ok (.iconst 1, 1) := by decide +kernel
theorem dX10_net_13 : decode cX10_net 13 = .ok (.istore_n 2, 1) := by decide +kernel
theorem dX10_net_14 : decode cX10_net 14 = .ok (.iload_n 2, 1) := by decide +kernel
theorem dX10_net_15 : decode cX10_net 15 = .ok (.ifCond .eq 183, 3) := by decide +kernel
theorem dX10_net_18 : decode cX10_net 18 = .ok (.aload_n 0, 1) := by decide +kernel
theorem dX10_net_19 : decode cX10_net 19 = .ok (.invokevirtual 458, 3) := by decide +kernel
theorem dX10_net_22 : decode cX10_net 22 = .ok (.aload_n 0, 1) := by decide +kernel
theorem dX10_net_23 : decode cX10_net 23 = .ok (.invokevirtual 461, 3) := by decide +kernel
theorem dX10_net_26 : decode cX10_net 26 = .ok (.iconst 0, 1) := by decide +kernel
theorem dX10_net_27 : decode cX10_net 27 = .ok (.istore_n 3, 1) := by decide +kernel
theorem dX10_net_28 : decode cX10_net 28 = .ok (.iconst 0, 1) := by decide +kernel
theorem dX10_net_29 : decode cX10_net 29 = .ok (.istore 4, 2) := by decide +kernel
theorem dX10_net_31 : decode cX10_net 31 = .ok (.iload 4, 2) := by decide +kernel
theorem dX10_net_33 : decode cX10_net 33 = .ok (.aload_n 0, 1) := by decide +kernel
theorem dX10_net_34 : decode cX10_net 34 = .ok (.getfield 441, 3) := by decide +kernel
theorem dX10_net_37 : decode cX10_net 37 = .ok (.if_icmp .ge 42, 3) := by decide +kernel
theorem dX10_net_40 : decode cX10_net 40 = .ok (.iload_n 3, 1) := by decide +kernel
theorem dX10_net_41 : decode cX10_net 41 = .ok (.aload_n 0, 1) := by decide +kernel
theorem dX10_net_42 : decode cX10_net 42 = .ok (.aload_n 0, 1) := by decide +kernel
theorem dX10_net_43 : decode cX10_net 43 = .ok (.getfield 195, 3) := by decide +kernel
theorem dX10_net_46 : decode cX10_net 46 = .ok (.iload 4, 2) := by decide +kernel
theorem dX10_net_48 : decode cX10_net 48 = .ok (.iaload, 1) := by decide +kernel
theorem dX10_net_49 : decode cX10_net 49 = .ok (.aload_n 0, 1) := by decide +kernel
theorem dX10_net_50 : decode cX10_net 50 = .ok (.getfield 195, 3) := by decide +kernel
theorem dX10_net_53 : decode cX10_net 53 = .ok (.iload 4, 2) := by decide +kernel
theorem dX10_net_55 : decode cX10_net 55 = .ok (.iconst 1, 1) := by decide +kernel
theorem dX10_net_56 : decode cX10_net 56 = .ok (.iadd, 1) := by decide +kernel
theorem dX10_net_57 : decode cX10_net 57 = .ok (.aload_n 0, 1) := by decide +kernel
theorem dX10_net_58 : decode cX10_net 58 = .ok (.getfield 441, 3) := by decide +kernel
theorem dX10_net_61 : decode cX10_net 61 = .ok (.irem, 1) := by decide +kernel
theorem dX10_net_62 : decode cX10_net 62 = .ok (.iaload, 1) := by decide +kernel
theorem dX10_net_63 : decode cX10_net 63 = .ok (.aload_n 0, 1) := by decide +kernel
theorem dX10_net_64 : decode cX10_net 64 = .ok (.getfield 438, 3) := by decide +kernel
theorem dX10_net_67 : decode cX10_net 67 = .ok (.iconst 0, 1) := by decide +kernel
theorem dX10_net_68 : decode cX10_net 68 = .ok (.invokevirtual 464, 3) := by decide +kernel
theorem dX10_net_71 : decode cX10_net 71 = .ok (.iadd, 1) := by decide +kernel
theorem dX10_net_72 : decode cX10_net 72 = .ok (.istore_n 3, 1) := by decide +kernel
theorem dX10_net_73 : decode cX10_net 73 = .ok (.iinc 4 1, 3) := by decide +kernel
theorem dX10_net_76 : decode cX10_net 76 = .ok (.goto (-45), 3) := by decide +kernel
theorem dX10_net_79 : decode cX10_net 79 = .ok (.aload_n 0, 1) := by decide +kernel
theorem dX10_net_80 : decode cX10_net 80 = .ok (.getfield 441, 3) := by decide +kernel
theorem dX10_net_83 : decode cX10_net 83 = .ok (.ifCond .le 19, 3) := by decide +kernel
theorem dX10_net_86 : decode cX10_net 86 = .ok (.aload_n 0, 1) := by decide +kernel
theorem dX10_net_87 : decode cX10_net 87 = .ok (.getfield 413, 3) := by decide +kernel
theorem dX10_net_90 : decode cX10_net 90 = .ok (.iload_n 3, 1) := by decide +kernel
theorem dX10_net_91 : decode cX10_net 91 = .ok (.iadd, 1) := by decide +kernel
theorem dX10_net_92 : decode cX10_net 92 = .ok (.sipush 600, 3) := by decide +kernel
theorem dX10_net_95 : decode cX10_net 95 = .ok (.if_icmp .gt 7, 3) := by decide +kernel
theorem dX10_net_98 : decode cX10_net 98 = .ok (.iconst 1, 1) := by decide +kernel
theorem dX10_net_99 : decode cX10_net 99 = .ok (.goto 4, 3) := by decide +kernel
theorem dX10_net_102 : decode cX10_net 102 = .ok (.iconst 0, 1) := by decide +kernel
theorem dX10_net_103 : decode cX10_net 103 = .ok (.istore_n 2, 1) := by decide +kernel
theorem dX10_net_104 : decode cX10_net 104 = .ok (.iload_n 2, 1) := by decide +kernel
theorem dX10_net_105 : decode cX10_net 105 = .ok (.ifCond .ne 6, 3) := by decide +kernel
theorem dX10_net_108 : decode cX10_net 108 = .ok (.goto 90, 3) := by decide +kernel
theorem dX10_net_111 : decode cX10_net 111 = .ok (.iconst 0, 1) := by decide +kernel
theorem dX10_net_112 : decode cX10_net 112 = .ok (.istore 4, 2) := by decide +kernel
theorem dX10_net_114 : decode cX10_net 114 = .ok (.iload 4, 2) := by decide +kernel
theorem dX10_net_116 : decode cX10_net 116 = .ok (.aload_n 0, 1) := by decide +kernel
theorem dX10_net_117 : decode cX10_net 117 = .ok (.getfield 441, 3) := by decide +kernel
theorem dX10_net_120 : decode cX10_net 120 = .ok (.if_icmp .ge 40, 3) := by decide +kernel
theorem dX10_net_123 : decode cX10_net 123 = .ok (.aload_n 0, 1) := by decide +kernel
theorem dX10_net_124 : decode cX10_net 124 = .ok (.aload_n 0, 1) := by decide +kernel
theorem dX10_net_125 : decode cX10_net 125 = .ok (.getfield 195, 3) := by decide +kernel
theorem dX10_net_128 : decode cX10_net 128 = .ok (.iload 4, 2) := by decide +kernel
theorem dX10_net_130 : decode cX10_net 130 = .ok (.iaload, 1) := by decide +kernel
theorem dX10_net_131 : decode cX10_net 131 = .ok (.aload_n 0, 1) := by decide +kernel
theorem dX10_net_132 : decode cX10_net 132 = .ok (.getfield 195, 3) := by decide +kernel
theorem dX10_net_135 : decode cX10_net 135 = .ok (.iload 4, 2) := by decide +kernel
theorem dX10_net_137 : decode cX10_net 137 = .ok (.iconst 1, 1) := by decide +kernel
theorem dX10_net_138 : decode cX10_net 138 = .ok (.iadd, 1) := by decide +kernel
theorem dX10_net_139 : decode cX10_net 139 = .ok (.aload_n 0, 1) := by decide +kernel
theorem dX10_net_140 : decode cX10_net 140 = .ok (.getfield 441, 3) := by decide +kernel
theorem dX10_net_143 : decode cX10_net 143 = .ok (.irem, 1) := by decide +kernel
theorem dX10_net_144 : decode cX10_net 144 = .ok (.iaload, 1) := by decide +kernel
theorem dX10_net_145 : decode cX10_net 145 = .ok (.aload_n 0, 1) := by decide +kernel
theorem dX10_net_146 : decode cX10_net 146 = .ok (.getfield 438, 3) := by decide +kernel
theorem dX10_net_149 : decode cX10_net 149 = .ok (.iconst 1, 1) := by decide +kernel
theorem dX10_net_150 : decode cX10_net 150 = .ok (.invokevirtual 464, 3) := by decide +kernel
theorem dX10_net_153 : decode cX10_net 153 = .ok (.pop, 1) := by decide +kernel
theorem dX10_net_154 : decode cX10_net 154 = .ok (.iinc 4 1, 3) := by decide +kernel
theorem dX10_net_157 : decode cX10_net 157 = .ok (.goto (-43), 3) := by decide +kernel
theorem dX10_net_160 : decode cX10_net 160 = .ok (.aload_n 0, 1) := by decide +kernel
theorem dX10_net_161 : decode cX10_net 161 = .ok (.getfield 192, 3) := by decide +kernel
theorem dX10_net_164 : decode cX10_net 164 = .ok (.aload_n 0, 1) := by decide +kernel
theorem dX10_net_165 : decode cX10_net 165 = .ok (.getfield 455, 3) := by decide +kernel
theorem dX10_net_168 : decode cX10_net 168 = .ok (.aload_n 0, 1) := by decide +kernel
theorem dX10_net_169 : decode cX10_net 169 = .ok (.getfield 438, 3) := by decide +kernel
theorem dX10_net_172 : decode cX10_net 172 = .ok (.iastore, 1) := by decide +kernel
theorem dX10_net_173 : decode cX10_net 173 = .ok (.aload_n 0, 1) := by decide +kernel
theorem dX10_net_174 : decode cX10_net 174 = .ok (.dup, 1) := by decide +kernel
theorem dX10_net_175 : decode cX10_net 175 = .ok (.getfield 455, 3) := by decide +kernel
theorem dX10_net_178 : decode cX10_net 178 = .ok (.iconst 1, 1) := by decide +kernel
theorem dX10_net_179 : decode cX10_net 179 = .ok (.iadd, 1) := by decide +kernel
theorem dX10_net_180 : decode cX10_net 180 = .ok (.putfield 455, 3) := by decide +kernel
theorem dX10_net_183 : decode cX10_net 183 = .ok (.iload_n 1, 1) := by decide +kernel
theorem dX10_net_184 : decode cX10_net 184 = .ok (.aload_n 0, 1) := by decide +kernel
theorem dX10_net_185 : decode cX10_net 185 = .ok (.getfield 438, 3) := by decide +kernel
theorem dX10_net_188 : decode cX10_net 188 = .ok (.aload_n 0, 1) := by decide +kernel
theorem dX10_net_189 : decode cX10_net 189 = .ok (.getfield 441, 3) := by decide +kernel
theorem dX10_net_192 : decode cX10_net 192 = .ok (.imul, 1) := by decide +kernel
theorem dX10_net_193 : decode cX10_net 193 = .ok (.iadd, 1) := by decide +kernel
theorem dX10_net_194 : decode cX10_net 194 = .ok (.istore_n 1, 1) := by decide +kernel
theorem dX10_net_195 : decode cX10_net 195 = .ok (.goto (-181), 3) := by decide +kernel
theorem dX10_net_198 : decode cX10_net 198 = .ok (.iload_n 1, 1) := by decide +kernel
theorem dX10_net_199 : decode cX10_net 199 = .ok (.ireturn, 1) := by decide +kernel
theorem dX10_netted_0 : decode cX10_netted 0 = .ok (.aload_n 0, 1) := by decide +kernel
theorem dX10_netted_1 : decode cX10_netted 1 = .ok (.getfield 451, 3) := by decide +kernel
theorem dX10_netted_4 : decode cX10_netted 4 = .ok (.ifCond .ne 7, 3) := by decide +kernel
theorem dX10_netted_7 : decode cX10_netted 7 = .ok (.iconst (-1), 1) := by decide +kernel
theorem dX10_netted_8 : decode cX10_netted 8 = .ok (.goto 39, 3) := by decide +kernel
theorem dX10_netted_11 : decode cX10_netted 11 = .ok (.iload_n 1, 1) := by decide +kernel
theorem dX10_netted_12 : decode cX10_netted 12 = .ok (.iconst (-1), 1) := by decide +kernel
theorem dX10_netted_13 : decode cX10_netted 13 = .ok (.if_icmp .ne 10, 3) := by decide +kernel
theorem dX10_netted_16 : decode cX10_netted 16 = .ok (.aload_n 0, 1) := by decide +kernel
theorem dX10_netted_17 : decode cX10_netted 17 = .ok (.getfield 455, 3) := by decide +kernel
theorem dX10_netted_20 : decode cX10_netted 20 = .ok (.goto 27, 3) := by decide +kernel
theorem dX10_netted_23 : decode cX10_netted 23 = .ok (.iload_n 1, 1) := by decide +kernel
theorem dX10_netted_24 : decode cX10_netted 24 = .ok (.iconst 0, 1) := by decide +kernel
theorem dX10_netted_25 : decode cX10_netted 25 = .ok (.aload_n 0, 1) := by decide +kernel
theorem dX10_netted_26 : decode cX10_netted 26 = .ok (.getfield 455, 3) := by decide +kernel
theorem dX10_netted_29 : decode cX10_netted 29 = .ok (.iconst 1, 1) := by decide +kernel
theorem dX10_netted_30 : decode cX10_netted 30 = .ok (.isub, 1) := by decide +kernel
theorem dX10_netted_31 : decode cX10_netted 31 = .ok (.invokestatic 228, 3) := by decide +kernel
theorem dX10_netted_34 : decode cX10_netted 34 = .ok (.ifCond .eq 12, 3) := by decide +kernel
theorem dX10_netted_37 : decode cX10_netted 37 = .ok (.aload_n 0, 1) := by decide +kernel
theorem dX10_netted_38 : decode cX10_netted 38 = .ok (.getfield 192, 3) := by decide +kernel
theorem dX10_netted_41 : decode cX10_netted 41 = .ok (.iload_n 1, 1) := by decide +kernel
theorem dX10_netted_42 : decode cX10_netted 42 = .ok (.iaload, 1) := by decide +kernel
theorem dX10_netted_43 : decode cX10_netted 43 = .ok (.goto 4, 3) := by decide +kernel
theorem dX10_netted_46 : decode cX10_netted 46 = .ok (.iconst (-1), 1) := by decide +kernel
theorem dX10_netted_47 : decode cX10_netted 47 = .ok (.ireturn, 1) := by decide +kernel
theorem dX10_list_0 : decode cX10_list 0 = .ok (.aload_n 0, 1) := by decide +kernel
theorem dX10_list_1 : decode cX10_list 1 = .ok (.iload_n 1, 1) := by decide +kernel
theorem dX10_list_2 : decode cX10_list 2 = .ok (.invokevirtual 370, 3) := by decide +kernel
theorem dX10_list_5 : decode cX10_list 5 = .ok (.ifCond .eq 32, 3) := by decide +kernel
theorem dX10_list_8 : decode cX10_list 8 = .ok (.aload_n 0, 1) := by decide +kernel
theorem dX10_list_9 : decode cX10_list 9 = .ok (.getfield 108, 3) := by decide +kernel
theorem dX10_list_12 : decode cX10_list 12 = .ok (.iload_n 1, 1) := by decide +kernel
theorem dX10_list_13 : decode cX10_list 13 = .ok (.iaload, 1) := by decide +kernel
theorem dX10_list_14 : decode cX10_list 14 = .ok (.iconst (-1), 1) := by decide +kernel
theorem dX10_list_15 : decode cX10_list 15 = .ok (.if_icmp .ne 22, 3) := by decide +kernel
theorem dX10_list_18 : decode cX10_list 18 = .ok (.aload_n 0, 1) := by decide +kernel
theorem dX10_list_19 : decode cX10_list 19 = .ok (.getfield 111, 3) := by decide +kernel
theorem dX10_list_22 : decode cX10_list 22 = .ok (.iload_n 1, 1) := by decide +kernel
theorem dX10_list_23 : decode cX10_list 23 = .ok (.iaload, 1) := by decide +kernel
theorem dX10_list_24 : decode cX10_list 24 = .ok (.iconst (-1), 1) := by decide +kernel
theorem dX10_list_25 : decode cX10_list 25 = .ok (.if_icmp .ne 12, 3) := by decide +kernel
theorem dX10_list_28 : decode cX10_list 28 = .ok (.aload_n 0, 1) := by decide +kernel
theorem dX10_list_29 : decode cX10_list 29 = .ok (.getfield 468, 3) := by decide +kernel
theorem dX10_list_32 : decode cX10_list 32 = .ok (.bipush 8, 2) := by decide +kernel
theorem dX10_list_34 : decode cX10_list 34 = .ok (.if_icmp .ne 5, 3) := by decide +kernel
theorem dX10_list_37 : decode cX10_list 37 = .ok (.iconst (-1), 1) := by decide +kernel
theorem dX10_list_38 : decode cX10_list 38 = .ok (.ireturn, 1) := by decide +kernel
theorem dX10_list_39 : decode cX10_list 39 = .ok (.iconst 0, 1) := by decide +kernel
theorem dX10_list_40 : decode cX10_list 40 = .ok (.istore_n 2, 1) := by decide +kernel
theorem dX10_list_41 : decode cX10_list 41 = .ok (.iload_n 2, 1) := by decide +kernel
theorem dX10_list_42 : decode cX10_list 42 = .ok (.aload_n 0, 1) := by decide +kernel
theorem dX10_list_43 : decode cX10_list 43 = .ok (.getfield 468, 3) := by decide +kernel
theorem dX10_list_46 : decode cX10_list 46 = .ok (.if_icmp .ge 21, 3) := by decide +kernel
theorem dX10_list_49 : decode cX10_list 49 = .ok (.aload_n 0, 1) := by decide +kernel
theorem dX10_list_50 : decode cX10_list 50 = .ok (.getfield 201, 3) := by decide +kernel
theorem dX10_list_53 : decode cX10_list 53 = .ok (.iload_n 2, 1) := by decide +kernel
theorem dX10_list_54 : decode cX10_list 54 = .ok (.iaload, 1) := by decide +kernel
theorem dX10_list_55 : decode cX10_list 55 = .ok (.iload_n 1, 1) := by decide +kernel
theorem dX10_list_56 : decode cX10_list 56 = .ok (.if_icmp .ne 5, 3) := by decide +kernel
theorem dX10_list_59 : decode cX10_list 59 = .ok (.iconst (-1), 1) := by decide +kernel
theorem dX10_list_60 : decode cX10_list 60 = .ok (.ireturn, 1) := by decide +kernel
theorem dX10_list_61 : decode cX10_list 61 = .ok (.iinc 2 1, 3) := by decide +kernel
theorem dX10_list_64 : decode cX10_list 64 = .ok (.goto (-23), 3) := by decide +kernel
theorem dX10_list_67 : decode cX10_list 67 = .ok (.aload_n 0, 1) := by decide +kernel
theorem dX10_list_68 : decode cX10_list 68 = .ok (.getfield 468, 3) := by decide +kernel
theorem dX10_list_71 : decode cX10_list 71 = .ok (.istore_n 2, 1) := by decide +kernel
theorem dX10_list_72 : decode cX10_list 72 = .ok (.iload_n 2, 1) := by decide +kernel
theorem dX10_list_73 : decode cX10_list 73 = .ok (.ifCond .le 35, 3) := by decide +kernel
theorem dX10_list_76 : decode cX10_list 76 = .ok (.aload_n 0, 1) := by decide +kernel
theorem dX10_list_77 : decode cX10_list 77 = .ok (.getfield 201, 3) := by decide +kernel
theorem dX10_list_80 : decode cX10_list 80 = .ok (.iload_n 2, 1) := by decide +kernel
theorem dX10_list_81 : decode cX10_list 81 = .ok (.iconst 1, 1) := by decide +kernel
theorem dX10_list_82 : decode cX10_list 82 = .ok (.isub, 1) := by decide +kernel
theorem dX10_list_83 : decode cX10_list 83 = .ok (.iaload, 1) := by decide +kernel
theorem dX10_list_84 : decode cX10_list 84 = .ok (.iload_n 1, 1) := by decide +kernel
theorem dX10_list_85 : decode cX10_list 85 = .ok (.if_icmp .le 23, 3) := by decide +kernel
theorem dX10_list_88 : decode cX10_list 88 = .ok (.aload_n 0, 1) := by decide +kernel
theorem dX10_list_89 : decode cX10_list 89 = .ok (.getfield 201, 3) := by decide +kernel
theorem dX10_list_92 : decode cX10_list 92 = .ok (.iload_n 2, 1) := by decide +kernel
theorem dX10_list_93 : decode cX10_list 93 = .ok (.aload_n 0, 1) := by decide +kernel
theorem dX10_list_94 : decode cX10_list 94 = .ok (.getfield 201, 3) := by decide +kernel
theorem dX10_list_97 : decode cX10_list 97 = .ok (.iload_n 2, 1) := by decide +kernel
theorem dX10_list_98 : decode cX10_list 98 = .ok (.iconst 1, 1) := by decide +kernel
theorem dX10_list_99 : decode cX10_list 99 = .ok (.isub, 1) := by decide +kernel
theorem dX10_list_100 : decode cX10_list 100 = .ok (.iaload, 1) := by decide +kernel
theorem dX10_list_101 : decode cX10_list 101 = .ok (.iastore, 1) := by decide +kernel
theorem dX10_list_102 : decode cX10_list 102 = .ok (.iinc 2 (-1), 3) := by decide +kernel
theorem dX10_list_105 : decode cX10_list 105 = .ok (.goto (-33), 3) := by decide +kernel
theorem dX10_list_108 : decode cX10_list 108 = .ok (.aload_n 0, 1) := by decide +kernel
theorem dX10_list_109 : decode cX10_list 109 = .ok (.getfield 201, 3) := by decide +kernel
theorem dX10_list_112 : decode cX10_list 112 = .ok (.iload_n 2, 1) := by decide +kernel
theorem dX10_list_113 : decode cX10_list 113 = .ok (.iload_n 1, 1) := by decide +kernel
theorem dX10_list_114 : decode cX10_list 114 = .ok (.iastore, 1) := by decide +kernel
theorem dX10_list_115 : decode cX10_list 115 = .ok (.aload_n 0, 1) := by decide +kernel
theorem dX10_list_116 : decode cX10_list 116 = .ok (.dup, 1) := by decide +kernel
theorem dX10_list_117 : decode cX10_list 117 = .ok (.getfield 468, 3) := by decide +kernel
theorem dX10_list_120 : decode cX10_list 120 = .ok (.iconst 1, 1) := by decide +kernel
theorem dX10_list_121 : decode cX10_list 121 = .ok (.iadd, 1) := by decide +kernel
theorem dX10_list_122 : decode cX10_list 122 = .ok (.putfield 468, 3) := by decide +kernel
theorem dX10_list_125 : decode cX10_list 125 = .ok (.aload_n 0, 1) := by decide +kernel
theorem dX10_list_126 : decode cX10_list 126 = .ok (.getfield 468, 3) := by decide +kernel
theorem dX10_list_129 : decode cX10_list 129 = .ok (.ireturn, 1) := by decide +kernel
theorem dX10_stepsBetween_0 : decode cX10_stepsBetween 0 = .ok (.iload_n 0, 1) := by decide +kernel
theorem dX10_stepsBetween_1 : decode cX10_stepsBetween 1 = .ok (.iload_n 2, 1) := by decide +kernel
theorem dX10_stepsBetween_2 : decode cX10_stepsBetween 2 = .ok (.if_icmp .ge 9, 3) := by decide +kernel
theorem dX10_stepsBetween_5 : decode cX10_stepsBetween 5 = .ok (.iload_n 2, 1) := by decide +kernel
theorem dX10_stepsBetween_6 : decode cX10_stepsBetween 6 = .ok (.iload_n 0, 1) := by decide +kernel
theorem dX10_stepsBetween_7 : decode cX10_stepsBetween 7 = .ok (.isub, 1) := by decide +kernel
theorem dX10_stepsBetween_8 : decode cX10_stepsBetween 8 = .ok (.goto 6, 3) := by decide +kernel
theorem dX10_stepsBetween_11 : decode cX10_stepsBetween 11 = .ok (.iload_n 0, 1) := by decide +kernel
theorem dX10_stepsBetween_12 : decode cX10_stepsBetween 12 = .ok (.iload_n 2, 1) := by decide +kernel
theorem dX10_stepsBetween_13 : decode cX10_stepsBetween 13 = .ok (.isub, 1) := by decide +kernel
theorem dX10_stepsBetween_14 : decode cX10_stepsBetween 14 = .ok (.iload_n 1, 1) := by decide +kernel
theorem dX10_stepsBetween_15 : decode cX10_stepsBetween 15 = .ok (.iload_n 3, 1) := by decide +kernel
theorem dX10_stepsBetween_16 : decode cX10_stepsBetween 16 = .ok (.if_icmp .ge 9, 3) := by decide +kernel
theorem dX10_stepsBetween_19 : decode cX10_stepsBetween 19 = .ok (.iload_n 3, 1) := by decide +kernel
theorem dX10_stepsBetween_20 : decode cX10_stepsBetween 20 = .ok (.iload_n 1, 1) := by decide +kernel
theorem dX10_stepsBetween_21 : decode cX10_stepsBetween 21 = .ok (.isub, 1) := by decide +kernel
theorem dX10_stepsBetween_22 : decode cX10_stepsBetween 22 = .ok (.goto 6, 3) := by decide +kernel
theorem dX10_stepsBetween_25 : decode cX10_stepsBetween 25 = .ok (.iload_n 1, 1) := by decide +kernel
theorem dX10_stepsBetween_26 : decode cX10_stepsBetween 26 = .ok (.iload_n 3, 1) := by decide +kernel
theorem dX10_stepsBetween_27 : decode cX10_stepsBetween 27 = .ok (.isub, 1) := by decide +kernel
theorem dX10_stepsBetween_28 : decode cX10_stepsBetween 28 = .ok (.iadd, 1) := by decide +kernel
theorem dX10_stepsBetween_29 : decode cX10_stepsBetween 29 = .ok (.ireturn, 1) := by decide +kernel
theorem dX10_far_0 : decode cX10_far 0 = .ok (.iload_n 1, 1) := by decide +kernel
theorem dX10_far_1 : decode cX10_far 1 = .ok (.aload_n 0, 1) := by decide +kernel
theorem dX10_far_2 : decode cX10_far 2 = .ok (.getfield 468, 3) := by decide +kernel
theorem dX10_far_5 : decode cX10_far 5 = .ok (.if_icmp .ne 8, 3) := by decide +kernel
theorem dX10_far_8 : decode cX10_far 8 = .ok (.bipush 50, 2) := by decide +kernel
theorem dX10_far_10 : decode cX10_far 10 = .ok (.goto 19, 3) := by decide +kernel
theorem dX10_far_13 : decode cX10_far 13 = .ok (.aload_n 0, 1) := by decide +kernel
theorem dX10_far_14 : decode cX10_far 14 = .ok (.getfield 47, 3) := by decide +kernel
theorem dX10_far_17 : decode cX10_far 17 = .ok (.aload_n 0, 1) := by decide +kernel
theorem dX10_far_18 : decode cX10_far 18 = .ok (.getfield 84, 3) := by decide +kernel
theorem dX10_far_21 : decode cX10_far 21 = .ok (.aload_n 0, 1) := by decide +kernel
theorem dX10_far_22 : decode cX10_far 22 = .ok (.getfield 201, 3) := by decide +kernel
theorem dX10_far_25 : decode cX10_far 25 = .ok (.iload_n 1, 1) := by decide +kernel
theorem dX10_far_26 : decode cX10_far 26 = .ok (.iaload, 1) := by decide +kernel
theorem dX10_far_27 : decode cX10_far 27 = .ok (.iaload, 1) := by decide +kernel
theorem dX10_far_28 : decode cX10_far 28 = .ok (.iaload, 1) := by decide +kernel
theorem dX10_far_29 : decode cX10_far 29 = .ok (.istore_n 3, 1) := by decide +kernel
theorem dX10_far_30 : decode cX10_far 30 = .ok (.iload_n 1, 1) := by decide +kernel
theorem dX10_far_31 : decode cX10_far 31 = .ok (.aload_n 0, 1) := by decide +kernel
theorem dX10_far_32 : decode cX10_far 32 = .ok (.getfield 468, 3) := by decide +kernel
theorem dX10_far_35 : decode cX10_far 35 = .ok (.if_icmp .ne 8, 3) := by decide +kernel
theorem dX10_far_38 : decode cX10_far 38 = .ok (.bipush 50, 2) := by decide +kernel
theorem dX10_far_40 : decode cX10_far 40 = .ok (.goto 19, 3) := by decide +kernel
theorem dX10_far_43 : decode cX10_far 43 = .ok (.aload_n 0, 1) := by decide +kernel
theorem dX10_far_44 : decode cX10_far 44 = .ok (.getfield 50, 3) := by decide +kernel
theorem dX10_far_47 : decode cX10_far 47 = .ok (.aload_n 0, 1) := by decide +kernel
theorem dX10_far_48 : decode cX10_far 48 = .ok (.getfield 84, 3) := by decide +kernel
theorem dX10_far_51 : decode cX10_far 51 = .ok (.aload_n 0, 1) := by decide +kernel
theorem dX10_far_52 : decode cX10_far 52 = .ok (.getfield 201, 3) := by decide +kernel
theorem dX10_far_55 : decode cX10_far 55 = .ok (.iload_n 1, 1) := by decide +kernel
theorem dX10_far_56 : decode cX10_far 56 = .ok (.iaload, 1) := by decide +kernel
theorem dX10_far_57 : decode cX10_far 57 = .ok (.iaload, 1) := by decide +kernel
theorem dX10_far_58 : decode cX10_far 58 = .ok (.iaload, 1) := by decide +kernel
theorem dX10_far_59 : decode cX10_far 59 = .ok (.istore 4, 2) := by decide +kernel
theorem dX10_far_61 : decode cX10_far 61 = .ok (.iload_n 2, 1) := by decide +kernel
theorem dX10_far_62 : decode cX10_far 62 = .ok (.aload_n 0, 1) := by decide +kernel
theorem dX10_far_63 : decode cX10_far 63 = .ok (.getfield 468, 3) := by decide +kernel
theorem dX10_far_66 : decode cX10_far 66 = .ok (.if_icmp .ne 8, 3) := by decide +kernel
theorem dX10_far_69 : decode cX10_far 69 = .ok (.bipush 50, 2) := by decide +kernel
theorem dX10_far_71 : decode cX10_far 71 = .ok (.goto 19, 3) := by decide +kernel
theorem dX10_far_74 : decode cX10_far 74 = .ok (.aload_n 0, 1) := by decide +kernel
theorem dX10_far_75 : decode cX10_far 75 = .ok (.getfield 47, 3) := by decide +kernel
theorem dX10_far_78 : decode cX10_far 78 = .ok (.aload_n 0, 1) := by decide +kernel
theorem dX10_far_79 : decode cX10_far 79 = .ok (.getfield 84, 3) := by decide +kernel
theorem dX10_far_82 : decode cX10_far 82 = .ok (.aload_n 0, 1) := by decide +kernel
theorem dX10_far_83 : decode cX10_far 83 = .ok (.getfield 201, 3) := by decide +kernel
theorem dX10_far_86 : decode cX10_far 86 = .ok (.iload_n 2, 1) := by decide +kernel
theorem dX10_far_87 : decode cX10_far 87 = .ok (.iaload, 1) := by decide +kernel
theorem dX10_far_88 : decode cX10_far 88 = .ok (.iaload, 1) := by decide +kernel
theorem dX10_far_89 : decode cX10_far 89 = .ok (.iaload, 1) := by decide +kernel
theorem dX10_far_90 : decode cX10_far 90 = .ok (.istore 5, 2) := by decide +kernel
theorem dX10_far_92 : decode cX10_far 92 = .ok (.iload_n 2, 1) := by decide +kernel
theorem dX10_far_93 : decode cX10_far 93 = .ok (.aload_n 0, 1) := by decide +kernel
theorem dX10_far_94 : decode cX10_far 94 = .ok (.getfield 468, 3) := by decide +kernel
theorem dX10_far_97 : decode cX10_far 97 = .ok (.if_icmp .ne 8, 3) := by decide +kernel
theorem dX10_far_100 : decode cX10_far 100 = .ok (.bipush 50, 2) := by decide +kernel
theorem dX10_far_102 : decode cX10_far 102 = .ok (.goto 19, 3) := by decide +kernel
theorem dX10_far_105 : decode cX10_far 105 = .ok (.aload_n 0, 1) := by decide +kernel
theorem dX10_far_106 : decode cX10_far 106 = .ok (.getfield 50, 3) := by decide +kernel
theorem dX10_far_109 : decode cX10_far 109 = .ok (.aload_n 0, 1) := by decide +kernel
theorem dX10_far_110 : decode cX10_far 110 = .ok (.getfield 84, 3) := by decide +kernel
theorem dX10_far_113 : decode cX10_far 113 = .ok (.aload_n 0, 1) := by decide +kernel
theorem dX10_far_114 : decode cX10_far 114 = .ok (.getfield 201, 3) := by decide +kernel
theorem dX10_far_117 : decode cX10_far 117 = .ok (.iload_n 2, 1) := by decide +kernel
theorem dX10_far_118 : decode cX10_far 118 = .ok (.iaload, 1) := by decide +kernel
theorem dX10_far_119 : decode cX10_far 119 = .ok (.iaload, 1) := by decide +kernel
theorem dX10_far_120 : decode cX10_far 120 = .ok (.iaload, 1) := by decide +kernel
theorem dX10_far_121 : decode cX10_far 121 = .ok (.istore 6, 2) := by decide +kernel
theorem dX10_far_123 : decode cX10_far 123 = .ok (.iload_n 3, 1) := by decide +kernel
theorem dX10_far_124 : decode cX10_far 124 = .ok (.iload 4, 2) := by decide +kernel
theorem dX10_far_126 : decode cX10_far 126 = .ok (.iload 5, 2) := by decide +kernel
theorem dX10_far_128 : decode cX10_far 128 = .ok (.iload 6, 2) := by decide +kernel
theorem dX10_far_130 : decode cX10_far 130 = .ok (.invokestatic 471, 3) := by decide +kernel
theorem dX10_far_133 : decode cX10_far 133 = .ok (.ireturn, 1) := by decide +kernel
theorem dX10_walk_0 : decode cX10_walk 0 = .ok (.iconst 1, 1) := by decide +kernel
theorem dX10_walk_1 : decode cX10_walk 1 = .ok (.aload_n 0, 1) := by decide +kernel
theorem dX10_walk_2 : decode cX10_walk 2 = .ok (.getfield 468, 3) := by decide +kernel
theorem dX10_walk_5 : decode cX10_walk 5 = .ok (.ishl, 1) := by decide +kernel
theorem dX10_walk_6 : decode cX10_walk 6 = .ok (.istore_n 1, 1) := by decide +kernel
theorem dX10_walk_7 : decode cX10_walk 7 = .ok (.iconst 0, 1) := by decide +kernel
theorem dX10_walk_8 : decode cX10_walk 8 = .ok (.istore_n 2, 1) := by decide +kernel
theorem dX10_walk_9 : decode cX10_walk 9 = .ok (.iload_n 2, 1) := by decide +kernel
theorem dX10_walk_10 : decode cX10_walk 10 = .ok (.iload_n 1, 1) := by decide +kernel
theorem dX10_walk_11 : decode cX10_walk 11 = .ok (.if_icmp .ge 119, 3) := by decide +kernel
theorem dX10_walk_14 : decode cX10_walk 14 = .ok (.iconst 0, 1) := by decide +kernel
theorem dX10_walk_15 : decode cX10_walk 15 = .ok (.istore_n 3, 1) := by decide +kernel
theorem dX10_walk_16 : decode cX10_walk 16 = .ok (.iload_n 3, 1) := by decide +kernel
theorem dX10_walk_17 : decode cX10_walk 17 = .ok (.aload_n 0, 1) := by decide +kernel
theorem dX10_walk_18 : decode cX10_walk 18 = .ok (.getfield 468, 3) := by decide +kernel
theorem dX10_walk_21 : decode cX10_walk 21 = .ok (.if_icmp .gt 103, 3) := by decide +kernel
theorem dX10_walk_24 : decode cX10_walk 24 = .ok (.iload_n 2, 1) := by decide +kernel
theorem dX10_walk_25 : decode cX10_walk 25 = .ok (.ifCond .ne 15, 3) := by decide +kernel
theorem dX10_walk_28 : decode cX10_walk 28 = .ok (.aload_n 0, 1) := by decide +kernel
theorem dX10_walk_29 : decode cX10_walk 29 = .ok (.iload_n 3, 1) := by decide +kernel
theorem dX10_walk_30 : decode cX10_walk 30 = .ok (.aload_n 0, 1) := by decide +kernel
theorem dX10_walk_31 : decode cX10_walk 31 = .ok (.getfield 468, 3) := by decide +kernel
theorem dX10_walk_34 : decode cX10_walk 34 = .ok (.invokevirtual 475, 3) := by decide +kernel
theorem dX10_walk_37 : decode cX10_walk 37 = .ok (.goto 6, 3) := by decide +kernel
theorem dX10_walk_40 : decode cX10_walk 40 = .ok (.ldc_w 431, 3) := by decide +kernel
theorem dX10_walk_43 : decode cX10_walk 43 = .ok (.istore 4, 2) := by decide +kernel
theorem dX10_walk_45 : decode cX10_walk 45 = .ok (.iconst 0, 1) := by decide +kernel
theorem dX10_walk_46 : decode cX10_walk 46 = .ok (.istore 5, 2) := by decide +kernel
theorem dX10_walk_48 : decode cX10_walk 48 = .ok (.iload 5, 2) := by decide +kernel
theorem dX10_walk_50 : decode cX10_walk 50 = .ok (.aload_n 0, 1) := by decide +kernel
theorem dX10_walk_51 : decode cX10_walk 51 = .ok (.getfield 468, 3) := by decide +kernel
theorem dX10_walk_54 : decode cX10_walk 54 = .ok (.if_icmp .ge 51, 3) := by decide +kernel
theorem dX10_walk_57 : decode cX10_walk 57 = .ok (.iload_n 2, 1) := by decide +kernel
theorem dX10_walk_58 : decode cX10_walk 58 = .ok (.iload 5, 2) := by decide +kernel
theorem dX10_walk_60 : decode cX10_walk 60 = .ok (.ishr, 1) := by decide +kernel
theorem dX10_walk_61 : decode cX10_walk 61 = .ok (.iconst 1, 1) := by decide +kernel
theorem dX10_walk_62 : decode cX10_walk 62 = .ok (.iand, 1) := by decide +kernel
theorem dX10_walk_63 : decode cX10_walk 63 = .ok (.iconst 1, 1) := by decide +kernel
theorem dX10_walk_64 : decode cX10_walk 64 = .ok (.if_icmp .ne 35, 3) := by decide +kernel
theorem dX10_walk_67 : decode cX10_walk 67 = .ok (.iload 4, 2) := by decide +kernel
theorem dX10_walk_69 : decode cX10_walk 69 = .ok (.aload_n 0, 1) := by decide +kernel
theorem dX10_walk_70 : decode cX10_walk 70 = .ok (.iload_n 3, 1) := by decide +kernel
theorem dX10_walk_71 : decode cX10_walk 71 = .ok (.iload 5, 2) := by decide +kernel
theorem dX10_walk_73 : decode cX10_walk 73 = .ok (.invokevirtual 475, 3) := by decide +kernel
theorem dX10_walk_76 : decode cX10_walk 76 = .ok (.aload_n 0, 1) := by decide +kernel
theorem dX10_walk_77 : decode cX10_walk 77 = .ok (.getfield 207, 3) := by decide +kernel
theorem dX10_walk_80 : decode cX10_walk 80 = .ok (.bipush 9, 2) := by decide +kernel
theorem dX10_walk_82 : decode cX10_walk 82 = .ok (.iload_n 2, 1) := by decide +kernel
theorem dX10_walk_83 : decode cX10_walk 83 = .ok (.iconst 1, 1) := by decide +kernel
theorem dX10_walk_84 : decode cX10_walk 84 = .ok (.iload 5, 2) := by decide +kernel
theorem dX10_walk_86 : decode cX10_walk 86 = .ok (.ishl, 1) := by decide +kernel
theorem dX10_walk_87 : decode cX10_walk 87 = .ok (.ixor, 1) := by decide +kernel
theorem dX10_walk_88 : decode cX10_walk 88 = .ok (.imul, 1) := by decide +kernel
theorem dX10_walk_89 : decode cX10_walk 89 = .ok (.iload 5, 2) := by decide +kernel
theorem dX10_walk_91 : decode cX10_walk 91 = .ok (.iadd, 1) := by decide +kernel
theorem dX10_walk_92 : decode cX10_walk 92 = .ok (.iaload, 1) := by decide +kernel
theorem dX10_walk_93 : decode cX10_walk 93 = .ok (.iadd, 1) := by decide +kernel
theorem dX10_walk_94 : decode cX10_walk 94 = .ok (.invokestatic 448, 3) := by decide +kernel
theorem dX10_walk_97 : decode cX10_walk 97 = .ok (.istore 4, 2) := by decide +kernel
theorem dX10_walk_99 : decode cX10_walk 99 = .ok (.iinc 5 1, 3) := by decide +kernel
theorem dX10_walk_102 : decode cX10_walk 102 = .ok (.goto (-54), 3) := by decide +kernel
theorem dX10_walk_105 : decode cX10_walk 105 = .ok (.aload_n 0, 1) := by decide +kernel
theorem dX10_walk_106 : decode cX10_walk 106 = .ok (.getfield 207, 3) := by decide +kernel
theorem dX10_walk_109 : decode cX10_walk 109 = .ok (.bipush 9, 2) := by decide +kernel
theorem dX10_walk_111 : decode cX10_walk 111 = .ok (.iload_n 2, 1) := by decide +kernel
theorem dX10_walk_112 : decode cX10_walk 112 = .ok (.imul, 1) := by decide +kernel
theorem dX10_walk_113 : decode cX10_walk 113 = .ok (.iload_n 3, 1) := by decide +kernel
theorem dX10_walk_114 : decode cX10_walk 114 = .ok (.iadd, 1) := by decide +kernel
theorem dX10_walk_115 : decode cX10_walk 115 = .ok (.iload 4, 2) := by decide +kernel
theorem dX10_walk_117 : decode cX10_walk 117 = .ok (.iastore, 1) := by decide +kernel
theorem dX10_walk_118 : decode cX10_walk 118 = .ok (.iinc 3 1, 3) := by decide +kernel
theorem dX10_walk_121 : decode cX10_walk 121 = .ok (.goto (-105), 3) := by decide +kernel
theorem dX10_walk_124 : decode cX10_walk 124 = .ok (.iinc 2 1, 3) := by decide +kernel
theorem dX10_walk_127 : decode cX10_walk 127 = .ok (.goto (-118), 3) := by decide +kernel
theorem dX10_walk_130 : decode cX10_walk 130 = .ok (.iload_n 1, 1) := by decide +kernel
theorem dX10_walk_131 : decode cX10_walk 131 = .ok (.iconst 1, 1) := by decide +kernel
theorem dX10_walk_132 : decode cX10_walk 132 = .ok (.isub, 1) := by decide +kernel
theorem dX10_walk_133 : decode cX10_walk 133 = .ok (.istore_n 2, 1) := by decide +kernel
theorem dX10_walk_134 : decode cX10_walk 134 = .ok (.aload_n 0, 1) := by decide +kernel
theorem dX10_walk_135 : decode cX10_walk 135 = .ok (.getfield 468, 3) := by decide +kernel
theorem dX10_walk_138 : decode cX10_walk 138 = .ok (.istore_n 3, 1) := by decide +kernel
theorem dX10_walk_139 : decode cX10_walk 139 = .ok (.aload_n 0, 1) := by decide +kernel
theorem dX10_walk_140 : decode cX10_walk 140 = .ok (.getfield 207, 3) := by decide +kernel
theorem dX10_walk_143 : decode cX10_walk 143 = .ok (.bipush 9, 2) := by decide +kernel
theorem dX10_walk_145 : decode cX10_walk 145 = .ok (.iload_n 2, 1) := by decide +kernel
theorem dX10_walk_146 : decode cX10_walk 146 = .ok (.imul, 1) := by decide +kernel
theorem dX10_walk_147 : decode cX10_walk 147 = .ok (.iload_n 3, 1) := by decide +kernel
theorem dX10_walk_148 : decode cX10_walk 148 = .ok (.iadd, 1) := by decide +kernel
theorem dX10_walk_149 : decode cX10_walk 149 = .ok (.iaload, 1) := by decide +kernel
theorem dX10_walk_150 : decode cX10_walk 150 = .ok (.istore 4, 2) := by decide +kernel
theorem dX10_walk_152 : decode cX10_walk 152 = .ok (.aload_n 0, 1) := by decide +kernel
theorem dX10_walk_153 : decode cX10_walk 153 = .ok (.iconst 0, 1) := by decide +kernel
theorem dX10_walk_154 : decode cX10_walk 154 = .ok (.putfield 478, 3) := by decide +kernel
theorem dX10_walk_157 : decode cX10_walk 157 = .ok (.iload_n 2, 1) := by decide +kernel
theorem dX10_walk_158 : decode cX10_walk 158 = .ok (.ifCond .eq 99, 3) := by decide +kernel
theorem dX10_walk_161 : decode cX10_walk 161 = .ok (.iconst 0, 1) := by decide +kernel
theorem dX10_walk_162 : decode cX10_walk 162 = .ok (.istore 5, 2) := by decide +kernel
theorem dX10_walk_164 : decode cX10_walk 164 = .ok (.iload_n 2, 1) := by decide +kernel
theorem dX10_walk_165 : decode cX10_walk 165 = .ok (.iload 5, 2) := by decide +kernel
theorem dX10_walk_167 : decode cX10_walk 167 = .ok (.ishr, 1) := by decide +kernel
theorem dX10_walk_168 : decode cX10_walk 168 = .ok (.iconst 1, 1) := by decide +kernel
theorem dX10_walk_169 : decode cX10_walk 169 = .ok (.iand, 1) := by decide +kernel
theorem dX10_walk_170 : decode cX10_walk 170 = .ok (.ifCond .eq 42, 3) := by decide +kernel
theorem dX10_walk_173 : decode cX10_walk 173 = .ok (.aload_n 0, 1) := by decide +kernel
theorem dX10_walk_174 : decode cX10_walk 174 = .ok (.iload_n 3, 1) := by decide +kernel
theorem dX10_walk_175 : decode cX10_walk 175 = .ok (.iload 5, 2) := by decide +kernel
theorem dX10_walk_177 : decode cX10_walk 177 = .ok (.invokevirtual 475, 3) := by decide +kernel
theorem dX10_walk_180 : decode cX10_walk 180 = .ok (.aload_n 0, 1) := by decide +kernel
theorem dX10_walk_181 : decode cX10_walk 181 = .ok (.getfield 207, 3) := by decide +kernel
theorem dX10_walk_184 : decode cX10_walk 184 = .ok (.bipush 9, 2) := by decide +kernel
theorem dX10_walk_186 : decode cX10_walk 186 = .ok (.iload_n 2, 1) := by decide +kernel
theorem dX10_walk_187 : decode cX10_walk 187 = .ok (.iconst 1, 1) := by decide +kernel
theorem dX10_walk_188 : decode cX10_walk 188 = .ok (.iload 5, 2) := by decide +kernel
theorem dX10_walk_190 : decode cX10_walk 190 = .ok (.ishl, 1) := by decide +kernel
theorem dX10_walk_191 : decode cX10_walk 191 = .ok (.ixor, 1) := by decide +kernel
theorem dX10_walk_192 : decode cX10_walk 192 = .ok (.imul, 1) := by decide +kernel
theorem dX10_walk_193 : decode cX10_walk 193 = .ok (.iload 5, 2) := by decide +kernel
theorem dX10_walk_195 : decode cX10_walk 195 = .ok (.iadd, 1) := by decide +kernel
theorem dX10_walk_196 : decode cX10_walk 196 = .ok (.iaload, 1) := by decide +kernel
theorem dX10_walk_197 : decode cX10_walk 197 = .ok (.iadd, 1) := by decide +kernel
theorem dX10_walk_198 : decode cX10_walk 198 = .ok (.aload_n 0, 1) := by decide +kernel
theorem dX10_walk_199 : decode cX10_walk 199 = .ok (.getfield 207, 3) := by decide +kernel
theorem dX10_walk_202 : decode cX10_walk 202 = .ok (.bipush 9, 2) := by decide +kernel
theorem dX10_walk_204 : decode cX10_walk 204 = .ok (.iload_n 2, 1) := by decide +kernel
theorem dX10_walk_205 : decode cX10_walk 205 = .ok (.imul, 1) := by decide +kernel
theorem dX10_walk_206 : decode cX10_walk 206 = .ok (.iload_n 3, 1) := by decide +kernel
theorem dX10_walk_207 : decode cX10_walk 207 = .ok (.iadd, 1) := by decide +kernel
theorem dX10_walk_208 : decode cX10_walk 208 = .ok (.iaload, 1) := by decide +kernel
theorem dX10_walk_209 : decode cX10_walk 209 = .ok (.if_icmp .eq 9, 3) := by decide +kernel
theorem dX10_walk_212 : decode cX10_walk 212 = .ok (.iinc 5 1, 3) := by decide +kernel
theorem dX10_walk_215 : decode cX10_walk 215 = .ok (.goto (-51), 3) := by decide +kernel
theorem dX10_walk_218 : decode cX10_walk 218 = .ok (.aload_n 0, 1) := by decide +kernel
theorem dX10_walk_219 : decode cX10_walk 219 = .ok (.getfield 204, 3) := by decide +kernel
theorem dX10_walk_222 : decode cX10_walk 222 = .ok (.aload_n 0, 1) := by decide +kernel
theorem dX10_walk_223 : decode cX10_walk 223 = .ok (.getfield 478, 3) := by decide +kernel
theorem dX10_walk_226 : decode cX10_walk 226 = .ok (.aload_n 0, 1) := by decide +kernel
theorem dX10_walk_227 : decode cX10_walk 227 = .ok (.getfield 201, 3) := by decide +kernel
theorem dX10_walk_230 : decode cX10_walk 230 = .ok (.iload 5, 2) := by decide +kernel
theorem dX10_walk_232 : decode cX10_walk 232 = .ok (.iaload, 1) := by decide +kernel
theorem dX10_walk_233 : decode cX10_walk 233 = .ok (.iastore, 1) := by decide +kernel
theorem dX10_walk_234 : decode cX10_walk 234 = .ok (.aload_n 0, 1) := by decide +kernel
theorem dX10_walk_235 : decode cX10_walk 235 = .ok (.dup, 1) := by decide +kernel
theorem dX10_walk_236 : decode cX10_walk 236 = .ok (.getfield 478, 3) := by decide +kernel
theorem dX10_walk_239 : decode cX10_walk 239 = .ok (.iconst 1, 1) := by decide +kernel
theorem dX10_walk_240 : decode cX10_walk 240 = .ok (.iadd, 1) := by decide +kernel
theorem dX10_walk_241 : decode cX10_walk 241 = .ok (.putfield 478, 3) := by decide +kernel
theorem dX10_walk_244 : decode cX10_walk 244 = .ok (.iload_n 2, 1) := by decide +kernel
theorem dX10_walk_245 : decode cX10_walk 245 = .ok (.iconst 1, 1) := by decide +kernel
theorem dX10_walk_246 : decode cX10_walk 246 = .ok (.iload 5, 2) := by decide +kernel
theorem dX10_walk_248 : decode cX10_walk 248 = .ok (.ishl, 1) := by decide +kernel
theorem dX10_walk_249 : decode cX10_walk 249 = .ok (.ixor, 1) := by decide +kernel
theorem dX10_walk_250 : decode cX10_walk 250 = .ok (.istore_n 2, 1) := by decide +kernel
theorem dX10_walk_251 : decode cX10_walk 251 = .ok (.iload 5, 2) := by decide +kernel
theorem dX10_walk_253 : decode cX10_walk 253 = .ok (.istore_n 3, 1) := by decide +kernel
theorem dX10_walk_254 : decode cX10_walk 254 = .ok (.goto (-97), 3) := by decide +kernel
theorem dX10_walk_257 : decode cX10_walk 257 = .ok (.aload_n 0, 1) := by decide +kernel
theorem dX10_walk_258 : decode cX10_walk 258 = .ok (.iconst 0, 1) := by decide +kernel
theorem dX10_walk_259 : decode cX10_walk 259 = .ok (.putfield 468, 3) := by decide +kernel
theorem dX10_walk_262 : decode cX10_walk 262 = .ok (.iload 4, 2) := by decide +kernel
theorem dX10_walk_264 : decode cX10_walk 264 = .ok (.ireturn, 1) := by decide +kernel
theorem dX10_walked_0 : decode cX10_walked 0 = .ok (.iload_n 1, 1) := by decide +kernel
theorem dX10_walked_1 : decode cX10_walked 1 = .ok (.iconst 0, 1) := by decide +kernel
theorem dX10_walked_2 : decode cX10_walked 2 = .ok (.aload_n 0, 1) := by decide +kernel
theorem dX10_walked_3 : decode cX10_walked 3 = .ok (.getfield 478, 3) := by decide +kernel
theorem dX10_walked_6 : decode cX10_walked 6 = .ok (.iconst 1, 1) := by decide +kernel
theorem dX10_walked_7 : decode cX10_walked 7 = .ok (.isub, 1) := by decide +kernel
theorem dX10_walked_8 : decode cX10_walked 8 = .ok (.invokestatic 228, 3) := by decide +kernel
theorem dX10_walked_11 : decode cX10_walked 11 = .ok (.ifCond .eq 12, 3) := by decide +kernel
theorem dX10_walked_14 : decode cX10_walked 14 = .ok (.aload_n 0, 1) := by decide +kernel
theorem dX10_walked_15 : decode cX10_walked 15 = .ok (.getfield 204, 3) := by decide +kernel
theorem dX10_walked_18 : decode cX10_walked 18 = .ok (.iload_n 1, 1) := by decide +kernel
theorem dX10_walked_19 : decode cX10_walked 19 = .ok (.iaload, 1) := by decide +kernel
theorem dX10_walked_20 : decode cX10_walked 20 = .ok (.goto 4, 3) := by decide +kernel
theorem dX10_walked_23 : decode cX10_walked 23 = .ok (.iconst (-1), 1) := by decide +kernel
theorem dX10_walked_24 : decode cX10_walked 24 = .ok (.ireturn, 1) := by decide +kernel
theorem dX10_habits_0 : decode cX10_habits 0 = .ok (.aload_n 0, 1) := by decide +kernel
theorem dX10_habits_1 : decode cX10_habits 1 = .ok (.iconst 0, 1) := by decide +kernel
theorem dX10_habits_2 : decode cX10_habits 2 = .ok (.putfield 481, 3) := by decide +kernel
theorem dX10_habits_5 : decode cX10_habits 5 = .ok (.aload_n 0, 1) := by decide +kernel
theorem dX10_habits_6 : decode cX10_habits 6 = .ok (.iconst 0, 1) := by decide +kernel
theorem dX10_habits_7 : decode cX10_habits 7 = .ok (.putfield 484, 3) := by decide +kernel
theorem dX10_habits_10 : decode cX10_habits 10 = .ok (.aload_n 0, 1) := by decide +kernel
theorem dX10_habits_11 : decode cX10_habits 11 = .ok (.getfield 392, 3) := by decide +kernel
theorem dX10_habits_14 : decode cX10_habits 14 = .ok (.iconst 1, 1) := by decide +kernel
theorem dX10_habits_15 : decode cX10_habits 15 = .ok (.isub, 1) := by decide +kernel
theorem dX10_habits_16 : decode cX10_habits 16 = .ok (.istore_n 2, 1) := by decide +kernel
theorem dX10_habits_17 : decode cX10_habits 17 = .ok (.iload_n 2, 1) := by decide +kernel
theorem dX10_habits_18 : decode cX10_habits 18 = .ok (.ifCond .lt 112, 3) := by decide +kernel
theorem dX10_habits_21 : decode cX10_habits 21 = .ok (.aload_n 0, 1) := by decide +kernel
theorem dX10_habits_22 : decode cX10_habits 22 = .ok (.getfield 481, 3) := by decide +kernel
theorem dX10_habits_25 : decode cX10_habits 25 = .ok (.bipush 60, 2) := by decide +kernel
theorem dX10_habits_27 : decode cX10_habits 27 = .ok (.if_icmp .ge 103, 3) := by decide +kernel
theorem dX10_habits_30 : decode cX10_habits 30 = .ok (.aload_n 0, 1) := by decide +kernel
theorem dX10_habits_31 : decode cX10_habits 31 = .ok (.getfield 141, 3) := by decide +kernel
theorem dX10_habits_34 : decode cX10_habits 34 = .ok (.iload_n 2, 1) := by decide +kernel
theorem dX10_habits_35 : decode cX10_habits 35 = .ok (.iaload, 1) := by decide +kernel
theorem dX10_habits_36 : decode cX10_habits 36 = .ok (.istore_n 3, 1) := by decide +kernel
theorem dX10_habits_37 : decode cX10_habits 37 = .ok (.aload_n 0, 1) := by decide +kernel
theorem dX10_habits_38 : decode cX10_habits 38 = .ok (.getfield 123, 3) := by decide +kernel
theorem dX10_habits_41 : decode cX10_habits 41 = .ok (.iload_n 3, 1) := by decide +kernel
theorem dX10_habits_42 : decode cX10_habits 42 = .ok (.iaload, 1) := by decide +kernel
theorem dX10_habits_43 : decode cX10_habits 43 = .ok (.iconst 4, 1) := by decide +kernel
theorem dX10_habits_44 : decode cX10_habits 44 = .ok (.if_icmp .lt 80, 3) := by decide +kernel
theorem dX10_habits_47 : decode cX10_habits 47 = .ok (.aload_n 0, 1) := by decide +kernel
theorem dX10_habits_48 : decode cX10_habits 48 = .ok (.getfield 126, 3) := by decide +kernel
theorem dX10_habits_51 : decode cX10_habits 51 = .ok (.iconst 3, 1) := by decide +kernel
theorem dX10_habits_52 : decode cX10_habits 52 = .ok (.iload_n 3, 1) := by decide +kernel
theorem dX10_habits_53 : decode cX10_habits 53 = .ok (.imul, 1) := by decide +kernel
theorem dX10_habits_54 : decode cX10_habits 54 = .ok (.iaload, 1) := by decide +kernel
theorem dX10_habits_55 : decode cX10_habits 55 = .ok (.iload_n 1, 1) := by decide +kernel
theorem dX10_habits_56 : decode cX10_habits 56 = .ok (.if_icmp .eq 34, 3) := by decide +kernel
theorem dX10_habits_59 : decode cX10_habits 59 = .ok (.aload_n 0, 1) := by decide +kernel
theorem dX10_habits_60 : decode cX10_habits 60 = .ok (.getfield 126, 3) := by decide +kernel
theorem dX10_habits_63 : decode cX10_habits 63 = .ok (.iconst 3, 1) := by decide +kernel
theorem dX10_habits_64 : decode cX10_habits 64 = .ok (.iload_n 3, 1) := by decide +kernel
theorem dX10_habits_65 : decode cX10_habits 65 = .ok (.imul, 1) := by decide +kernel
theorem dX10_habits_66 : decode cX10_habits 66 = .ok (.iconst 1, 1) := by decide +kernel
theorem dX10_habits_67 : decode cX10_habits 67 = .ok (.iadd, 1) := by decide +kernel
theorem dX10_habits_68 : decode cX10_habits 68 = .ok (.iaload, 1) := by decide +kernel
theorem dX10_habits_69 : decode cX10_habits 69 = .ok (.iload_n 1, 1) := by decide +kernel
theorem dX10_habits_70 : decode cX10_habits 70 = .ok (.if_icmp .eq 20, 3) := by decide +kernel
theorem dX10_habits_73 : decode cX10_habits 73 = .ok (.aload_n 0, 1) := by decide +kernel
theorem dX10_habits_74 : decode cX10_habits 74 = .ok (.getfield 126, 3) := by decide +kernel
theorem dX10_habits_77 : decode cX10_habits 77 = .ok (.iconst 3, 1) := by decide +kernel
theorem dX10_habits_78 : decode cX10_habits 78 = .ok (.iload_n 3, 1) := by decide +kernel
theorem dX10_habits_79 : decode cX10_habits 79 = .ok (.imul, 1) := by decide +kernel
theorem dX10_habits_80 : decode cX10_habits 80 = .ok (.iconst 2, 1) := by decide +kernel
theorem dX10_habits_81 : decode cX10_habits 81 = .ok (.iadd, 1) := by decide +kernel
theorem dX10_habits_82 : decode cX10_habits 82 = .ok (.iaload, 1) := by decide +kernel
theorem dX10_habits_83 : decode cX10_habits 83 = .ok (.iload_n 1, 1) := by decide +kernel
theorem dX10_habits_84 : decode cX10_habits 84 = .ok (.if_icmp .eq 6, 3) := by decide +kernel
theorem dX10_habits_87 : decode cX10_habits 87 = .ok (.goto 37, 3) := by decide +kernel
theorem dX10_habits_90 : decode cX10_habits 90 = .ok (.aload_n 0, 1) := by decide +kernel
theorem dX10_habits_91 : decode cX10_habits 91 = .ok (.dup, 1) := by decide +kernel
theorem dX10_habits_92 : decode cX10_habits 92 = .ok (.getfield 481, 3) := by decide +kernel
theorem dX10_habits_95 : decode cX10_habits 95 = .ok (.iconst 1, 1) := by decide +kernel
theorem dX10_habits_96 : decode cX10_habits 96 = .ok (.iadd, 1) := by decide +kernel
theorem dX10_habits_97 : decode cX10_habits 97 = .ok (.putfield 481, 3) := by decide +kernel
theorem dX10_habits_100 : decode cX10_habits 100 = .ok (.aload_n 0, 1) := by decide +kernel
theorem dX10_habits_101 : decode cX10_habits 101 = .ok (.dup, 1) := by decide +kernel
theorem dX10_habits_102 : decode cX10_habits 102 = .ok (.getfield 484, 3) := by decide +kernel
theorem dX10_habits_105 : decode cX10_habits 105 = .ok (.aload_n 0, 1) := by decide +kernel
theorem dX10_habits_106 : decode cX10_habits 106 = .ok (.getfield 123, 3) := by decide +kernel
theorem dX10_habits_109 : decode cX10_habits 109 = .ok (.iload_n 3, 1) := by decide +kernel
theorem dX10_habits_110 : decode cX10_habits 110 = .ok (.iaload, 1) := by decide +kernel
theorem dX10_habits_111 : decode cX10_habits 111 = .ok (.iconst 5, 1) := by decide +kernel
theorem dX10_habits_112 : decode cX10_habits 112 = .ok (.if_icmp .ne 7, 3) := by decide +kernel
theorem dX10_habits_115 : decode cX10_habits 115 = .ok (.iconst 1, 1) := by decide +kernel
theorem dX10_habits_116 : decode cX10_habits 116 = .ok (.goto 4, 3) := by decide +kernel
theorem dX10_habits_119 : decode cX10_habits 119 = .ok (.iconst 0, 1) := by decide +kernel
theorem dX10_habits_120 : decode cX10_habits 120 = .ok (.iadd, 1) := by decide +kernel
theorem dX10_habits_121 : decode cX10_habits 121 = .ok (.putfield 484, 3) := by decide +kernel
theorem dX10_habits_124 : decode cX10_habits 124 = .ok (.iinc 2 (-1), 3) := by decide +kernel
theorem dX10_habits_127 : decode cX10_habits 127 = .ok (.goto (-110), 3) := by decide +kernel
theorem dX10_habits_130 : decode cX10_habits 130 = .ok (.return_, 1) := by decide +kernel
theorem dX10_isRare_0 : decode cX10_isRare 0 = .ok (.iconst 0, 1) := by decide +kernel
theorem dX10_isRare_1 : decode cX10_isRare 1 = .ok (.istore_n 3, 1) := by decide +kernel
theorem dX10_isRare_2 : decode cX10_isRare 2 = .ok (.iload_n 3, 1) := by decide +kernel
theorem dX10_isRare_3 : decode cX10_isRare 3 = .ok (.iload_n 1, 1) := by decide +kernel
theorem dX10_isRare_4 : decode cX10_isRare 4 = .ok (.if_icmp .gt 24, 3) := by decide +kernel
theorem dX10_isRare_7 : decode cX10_isRare 7 = .ok (.aload_n 0, 1) := by decide +kernel
theorem dX10_isRare_8 : decode cX10_isRare 8 = .ok (.getfield 210, 3) := by decide +kernel
theorem dX10_isRare_11 : decode cX10_isRare 11 = .ok (.iload_n 3, 1) := by decide +kernel
theorem dX10_isRare_12 : decode cX10_isRare 12 = .ok (.iload_n 3, 1) := by decide +kernel
theorem dX10_isRare_13 : decode cX10_isRare 13 = .ok (.ifCond .ne 7, 3) := by decide +kernel
theorem dX10_isRare_16 : decode cX10_isRare 16 = .ok (.lconst 1, 1) := by decide +kernel
theorem dX10_isRare_17 : decode cX10_isRare 17 = .ok (.goto 4, 3) := by decide +kernel
theorem dX10_isRare_20 : decode cX10_isRare 20 = .ok (.lconst 0, 1) := by decide +kernel
theorem dX10_isRare_21 : decode cX10_isRare 21 = .ok (.lastore, 1) := by decide +kernel
theorem dX10_isRare_22 : decode cX10_isRare 22 = .ok (.iinc 3 1, 3) := by decide +kernel
theorem dX10_isRare_25 : decode cX10_isRare 25 = .ok (.goto (-23), 3) := by decide +kernel
theorem dX10_isRare_28 : decode cX10_isRare 28 = .ok (.iconst 1, 1) := by decide +kernel
theorem dX10_isRare_29 : decode cX10_isRare 29 = .ok (.istore_n 3, 1) := by decide +kernel
theorem dX10_isRare_30 : decode cX10_isRare 30 = .ok (.iload_n 3, 1) := by decide +kernel
theorem dX10_isRare_31 : decode cX10_isRare 31 = .ok (.iload_n 1, 1) := by decide +kernel
theorem dX10_isRare_32 : decode cX10_isRare 32 = .ok (.if_icmp .gt 42, 3) := by decide +kernel
theorem dX10_isRare_35 : decode cX10_isRare 35 = .ok (.iload_n 3, 1) := by decide +kernel
theorem dX10_isRare_36 : decode cX10_isRare 36 = .ok (.istore 4, 2) := by decide +kernel
theorem dX10_isRare_38 : decode cX10_isRare 38 = .ok (.iload 4, 2) := by decide +kernel
theorem dX10_isRare_40 : decode cX10_isRare 40 = .ok (.ifCond .le 28, 3) := by decide +kernel
theorem dX10_isRare_43 : decode cX10_isRare 43 = .ok (.aload_n 0, 1) := by decide +kernel
theorem dX10_isRare_44 : decode cX10_isRare 44 = .ok (.getfield 210, 3) := by decide +kernel
theorem dX10_isRare_47 : decode cX10_isRare 47 = .ok (.iload 4, 2) := by decide +kernel
theorem dX10_isRare_49 : decode cX10_isRare 49 = .ok (.dup2, 1) := by decide +kernel
theorem dX10_isRare_50 : decode cX10_isRare 50 = .ok (.laload, 1) := by decide +kernel
theorem dX10_isRare_51 : decode cX10_isRare 51 = .ok (.aload_n 0, 1) := by decide +kernel
theorem dX10_isRare_52 : decode cX10_isRare 52 = .ok (.getfield 210, 3) := by decide +kernel
theorem dX10_isRare_55 : decode cX10_isRare 55 = .ok (.iload 4, 2) := by decide +kernel
theorem dX10_isRare_57 : decode cX10_isRare 57 = .ok (.iconst 1, 1) := by decide +kernel
theorem dX10_isRare_58 : decode cX10_isRare 58 = .ok (.isub, 1) := by decide +kernel
theorem dX10_isRare_59 : decode cX10_isRare 59 = .ok (.laload, 1) := by decide +kernel
theorem dX10_isRare_60 : decode cX10_isRare 60 = .ok (.ladd, 1) := by decide +kernel
theorem dX10_isRare_61 : decode cX10_isRare 61 = .ok (.lastore, 1) := by decide +kernel
theorem dX10_isRare_62 : decode cX10_isRare 62 = .ok (.iinc 4 (-1), 3) := by decide +kernel
theorem dX10_isRare_65 : decode cX10_isRare 65 = .ok (.goto (-27), 3) := by decide +kernel
theorem dX10_isRare_68 : decode cX10_isRare 68 = .ok (.iinc 3 1, 3) := by decide +kernel
theorem dX10_isRare_71 : decode cX10_isRare 71 = .ok (.goto (-41), 3) := by decide +kernel
theorem dX10_isRare_74 : decode cX10_isRare 74 = .ok (.lconst 0, 1) := by decide +kernel
theorem dX10_isRare_75 : decode cX10_isRare 75 = .ok (.lstore_n 3, 1) := by decide +kernel
theorem dX10_isRare_76 : decode cX10_isRare 76 = .ok (.iload_n 2, 1) := by decide +kernel
theorem dX10_isRare_77 : decode cX10_isRare 77 = .ok (.istore 5, 2) := by decide +kernel
theorem dX10_isRare_79 : decode cX10_isRare 79 = .ok (.iload 5, 2) := by decide +kernel
theorem dX10_isRare_81 : decode cX10_isRare 81 = .ok (.iload_n 1, 1) := by decide +kernel
theorem dX10_isRare_82 : decode cX10_isRare 82 = .ok (.if_icmp .gt 19, 3) := by decide +kernel
theorem dX10_isRare_85 : decode cX10_isRare 85 = .ok (.lload_n 3, 1) := by decide +kernel
theorem dX10_isRare_86 : decode cX10_isRare 86 = .ok (.aload_n 0, 1) := by decide +kernel
theorem dX10_isRare_87 : decode cX10_isRare 87 = .ok (.getfield 210, 3) := by decide +kernel
theorem dX10_isRare_90 : decode cX10_isRare 90 = .ok (.iload 5, 2) := by decide +kernel
theorem dX10_isRare_92 : decode cX10_isRare 92 = .ok (.laload, 1) := by decide +kernel
theorem dX10_isRare_93 : decode cX10_isRare 93 = .ok (.ladd, 1) := by decide +kernel
theorem dX10_isRare_94 : decode cX10_isRare 94 = .ok (.lstore_n 3, 1) := by decide +kernel
theorem dX10_isRare_95 : decode cX10_isRare 95 = .ok (.iinc 5 1, 3) := by decide +kernel
theorem dX10_isRare_98 : decode cX10_isRare 98 = .ok (.goto (-19), 3) := by decide +kernel
theorem dX10_isRare_101 : decode cX10_isRare 101 = .ok (.lload_n 3, 1) := by decide +kernel
theorem dX10_isRare_102 : decode cX10_isRare 102 = .ok (.lconst 1, 1) := by decide +kernel
theorem dX10_isRare_103 : decode cX10_isRare 103 = .ok (.iload_n 1, 1) := by decide +kernel
theorem dX10_isRare_104 : decode cX10_isRare 104 = .ok (.lshl, 1) := by decide +kernel
theorem dX10_isRare_105 : decode cX10_isRare 105 = .ok (.ldc2_w 487, 3) := by decide +kernel
theorem dX10_isRare_108 : decode cX10_isRare 108 = .ok (.ldiv, 1) := by decide +kernel
theorem dX10_isRare_109 : decode cX10_isRare 109 = .ok (.lcmp, 1) := by decide +kernel
theorem dX10_isRare_110 : decode cX10_isRare 110 = .ok (.ifCond .gt 7, 3) := by decide +kernel
theorem dX10_isRare_113 : decode cX10_isRare 113 = .ok (.iconst 1, 1) := by decide +kernel
theorem dX10_isRare_114 : decode cX10_isRare 114 = .ok (.goto 4, 3) := by decide +kernel
theorem dX10_isRare_117 : decode cX10_isRare 117 = .ok (.iconst 0, 1) := by decide +kernel
theorem dX10_isRare_118 : decode cX10_isRare 118 = .ok (.ireturn, 1) := by decide +kernel
theorem dX10_habit_0 : decode cX10_habit 0 = .ok (.aload_n 0, 1) := by decide +kernel
theorem dX10_habit_1 : decode cX10_habit 1 = .ok (.iload_n 1, 1) := by decide +kernel
theorem dX10_habit_2 : decode cX10_habit 2 = .ok (.invokevirtual 348, 3) := by decide +kernel
theorem dX10_habit_5 : decode cX10_habit 5 = .ok (.ifCond .ne 5, 3) := by decide +kernel
theorem dX10_habit_8 : decode cX10_habit 8 = .ok (.iconst (-1), 1) := by decide +kernel
theorem dX10_habit_9 : decode cX10_habit 9 = .ok (.ireturn, 1) := by decide +kernel
theorem dX10_habit_10 : decode cX10_habit 10 = .ok (.aload_n 0, 1) := by decide +kernel
theorem dX10_habit_11 : decode cX10_habit 11 = .ok (.iload_n 1, 1) := by decide +kernel
theorem dX10_habit_12 : decode cX10_habit 12 = .ok (.invokevirtual 489, 3) := by decide +kernel
theorem dX10_habit_15 : decode cX10_habit 15 = .ok (.iload_n 2, 1) := by decide +kernel
theorem dX10_habit_16 : decode cX10_habit 16 = .ok (.ifCond .ne 8, 3) := by decide +kernel
theorem dX10_habit_19 : decode cX10_habit 19 = .ok (.aload_n 0, 1) := by decide +kernel
theorem dX10_habit_20 : decode cX10_habit 20 = .ok (.getfield 481, 3) := by decide +kernel
theorem dX10_habit_23 : decode cX10_habit 23 = .ok (.ireturn, 1) := by decide +kernel
theorem dX10_habit_24 : decode cX10_habit 24 = .ok (.iload_n 2, 1) := by decide +kernel
theorem dX10_habit_25 : decode cX10_habit 25 = .ok (.iconst 1, 1) := by decide +kernel
theorem dX10_habit_26 : decode cX10_habit 26 = .ok (.if_icmp .ne 8, 3) := by decide +kernel
theorem dX10_habit_29 : decode cX10_habit 29 = .ok (.aload_n 0, 1) := by decide +kernel
theorem dX10_habit_30 : decode cX10_habit 30 = .ok (.getfield 484, 3) := by decide +kernel
theorem dX10_habit_33 : decode cX10_habit 33 = .ok (.ireturn, 1) := by decide +kernel
theorem dX10_habit_34 : decode cX10_habit 34 = .ok (.iload_n 2, 1) := by decide +kernel
theorem dX10_habit_35 : decode cX10_habit 35 = .ok (.iconst 2, 1) := by decide +kernel
theorem dX10_habit_36 : decode cX10_habit 36 = .ok (.if_icmp .eq 5, 3) := by decide +kernel
theorem dX10_habit_39 : decode cX10_habit 39 = .ok (.iconst (-1), 1) := by decide +kernel
theorem dX10_habit_40 : decode cX10_habit 40 = .ok (.ireturn, 1) := by decide +kernel
theorem dX10_habit_41 : decode cX10_habit 41 = .ok (.aload_n 0, 1) := by decide +kernel
theorem dX10_habit_42 : decode cX10_habit 42 = .ok (.aload_n 0, 1) := by decide +kernel
theorem dX10_habit_43 : decode cX10_habit 43 = .ok (.getfield 481, 3) := by decide +kernel
theorem dX10_habit_46 : decode cX10_habit 46 = .ok (.aload_n 0, 1) := by decide +kernel
theorem dX10_habit_47 : decode cX10_habit 47 = .ok (.getfield 484, 3) := by decide +kernel
theorem dX10_habit_50 : decode cX10_habit 50 = .ok (.invokevirtual 492, 3) := by decide +kernel
theorem dX10_habit_53 : decode cX10_habit 53 = .ok (.ifCond .eq 7, 3) := by decide +kernel
theorem dX10_habit_56 : decode cX10_habit 56 = .ok (.iconst 1, 1) := by decide +kernel
theorem dX10_habit_57 : decode cX10_habit 57 = .ok (.goto 28, 3) := by decide +kernel
theorem dX10_habit_60 : decode cX10_habit 60 = .ok (.aload_n 0, 1) := by decide +kernel
theorem dX10_habit_61 : decode cX10_habit 61 = .ok (.aload_n 0, 1) := by decide +kernel
theorem dX10_habit_62 : decode cX10_habit 62 = .ok (.getfield 481, 3) := by decide +kernel
theorem dX10_habit_65 : decode cX10_habit 65 = .ok (.aload_n 0, 1) := by decide +kernel
theorem dX10_habit_66 : decode cX10_habit 66 = .ok (.getfield 481, 3) := by decide +kernel
theorem dX10_habit_69 : decode cX10_habit 69 = .ok (.aload_n 0, 1) := by decide +kernel
theorem dX10_habit_70 : decode cX10_habit 70 = .ok (.getfield 484, 3) := by decide +kernel
theorem dX10_habit_73 : decode cX10_habit 73 = .ok (.isub, 1) := by decide +kernel
theorem dX10_habit_74 : decode cX10_habit 74 = .ok (.invokevirtual 492, 3) := by decide +kernel
theorem dX10_habit_77 : decode cX10_habit 77 = .ok (.ifCond .eq 7, 3) := by decide +kernel
theorem dX10_habit_80 : decode cX10_habit 80 = .ok (.iconst 2, 1) := by decide +kernel
theorem dX10_habit_81 : decode cX10_habit 81 = .ok (.goto 4, 3) := by decide +kernel
theorem dX10_habit_84 : decode cX10_habit 84 = .ok (.iconst 0, 1) := by decide +kernel
theorem dX10_habit_85 : decode cX10_habit 85 = .ok (.ireturn, 1) := by decide +kernel
theorem dX10_other_0 : decode cX10_other 0 = .ok (.iload_n 1, 1) := by decide +kernel
theorem dX10_other_1 : decode cX10_other 1 = .ok (.iconst (-1), 1) := by decide +kernel
theorem dX10_other_2 : decode cX10_other 2 = .ok (.aload_n 0, 1) := by decide +kernel
theorem dX10_other_3 : decode cX10_other 3 = .ok (.getfield 321, 3) := by decide +kernel
theorem dX10_other_6 : decode cX10_other 6 = .ok (.iconst 1, 1) := by decide +kernel
theorem dX10_other_7 : decode cX10_other 7 = .ok (.isub, 1) := by decide +kernel
theorem dX10_other_8 : decode cX10_other 8 = .ok (.invokestatic 228, 3) := by decide +kernel
theorem dX10_other_11 : decode cX10_other 11 = .ok (.ifCond .eq 13, 3) := by decide +kernel
theorem dX10_other_14 : decode cX10_other 14 = .ok (.iload_n 2, 1) := by decide +kernel
theorem dX10_other_15 : decode cX10_other 15 = .ok (.iconst 1, 1) := by decide +kernel
theorem dX10_other_16 : decode cX10_other 16 = .ok (.bipush 6, 2) := by decide +kernel
theorem dX10_other_18 : decode cX10_other 18 = .ok (.invokestatic 228, 3) := by decide +kernel
theorem dX10_other_21 : decode cX10_other 21 = .ok (.ifCond .ne 5, 3) := by decide +kernel
theorem dX10_other_24 : decode cX10_other 24 = .ok (.iconst (-1), 1) := by decide +kernel
theorem dX10_other_25 : decode cX10_other 25 = .ok (.ireturn, 1) := by decide +kernel
theorem dX10_other_26 : decode cX10_other 26 = .ok (.iload_n 1, 1) := by decide +kernel
theorem dX10_other_27 : decode cX10_other 27 = .ok (.iconst 1, 1) := by decide +kernel
theorem dX10_other_28 : decode cX10_other 28 = .ok (.iadd, 1) := by decide +kernel
theorem dX10_other_29 : decode cX10_other 29 = .ok (.istore_n 3, 1) := by decide +kernel
theorem dX10_other_30 : decode cX10_other 30 = .ok (.iconst 0, 1) := by decide +kernel
theorem dX10_other_31 : decode cX10_other 31 = .ok (.istore 4, 2) := by decide +kernel
theorem dX10_other_33 : decode cX10_other 33 = .ok (.iconst 0, 1) := by decide +kernel
theorem dX10_other_34 : decode cX10_other 34 = .ok (.istore 5, 2) := by decide +kernel
theorem dX10_other_36 : decode cX10_other 36 = .ok (.iconst 0, 1) := by decide +kernel
theorem dX10_other_37 : decode cX10_other 37 = .ok (.istore 6, 2) := by decide +kernel
theorem dX10_other_39 : decode cX10_other 39 = .ok (.iload 6, 2) := by decide +kernel
theorem dX10_other_41 : decode cX10_other 41 = .ok (.aload_n 0, 1) := by decide +kernel
theorem dX10_other_42 : decode cX10_other 42 = .ok (.getfield 392, 3) := by decide +kernel
theorem dX10_other_45 : decode cX10_other 45 = .ok (.if_icmp .ge 89, 3) := by decide +kernel
theorem dX10_other_48 : decode cX10_other 48 = .ok (.aload_n 0, 1) := by decide +kernel
theorem dX10_other_49 : decode cX10_other 49 = .ok (.getfield 141, 3) := by decide +kernel
theorem dX10_other_52 : decode cX10_other 52 = .ok (.iload 6, 2) := by decide +kernel
theorem dX10_other_54 : decode cX10_other 54 = .ok (.iaload, 1) := by decide +kernel
theorem dX10_other_55 : decode cX10_other 55 = .ok (.istore 7, 2) := by decide +kernel
theorem dX10_other_57 : decode cX10_other 57 = .ok (.aload_n 0, 1) := by decide +kernel
theorem dX10_other_58 : decode cX10_other 58 = .ok (.iload 7, 2) := by decide +kernel
theorem dX10_other_60 : decode cX10_other 60 = .ok (.iload_n 3, 1) := by decide +kernel
theorem dX10_other_61 : decode cX10_other 61 = .ok (.invokevirtual 395, 3) := by decide +kernel
theorem dX10_other_64 : decode cX10_other 64 = .ok (.istore 8, 2) := by decide +kernel
theorem dX10_other_66 : decode cX10_other 66 = .ok (.iload 4, 2) := by decide +kernel
theorem dX10_other_68 : decode cX10_other 68 = .ok (.iload 8, 2) := by decide +kernel
theorem dX10_other_70 : decode cX10_other 70 = .ok (.iload_n 2, 1) := by decide +kernel
theorem dX10_other_71 : decode cX10_other 71 = .ok (.if_icmp .ne 7, 3) := by decide +kernel
theorem dX10_other_74 : decode cX10_other 74 = .ok (.iconst 1, 1) := by decide +kernel
theorem dX10_other_75 : decode cX10_other 75 = .ok (.goto 4, 3) := by decide +kernel
theorem dX10_other_78 : decode cX10_other 78 = .ok (.iconst 0, 1) := by decide +kernel
theorem dX10_other_79 : decode cX10_other 79 = .ok (.iadd, 1) := by decide +kernel
theorem dX10_other_80 : decode cX10_other 80 = .ok (.istore 4, 2) := by decide +kernel
theorem dX10_other_82 : decode cX10_other 82 = .ok (.iload 5, 2) := by decide +kernel
theorem dX10_other_84 : decode cX10_other 84 = .ok (.aload_n 0, 1) := by decide +kernel
theorem dX10_other_85 : decode cX10_other 85 = .ok (.getfield 105, 3) := by decide +kernel
theorem dX10_other_88 : decode cX10_other 88 = .ok (.iload 7, 2) := by decide +kernel
theorem dX10_other_90 : decode cX10_other 90 = .ok (.iaload, 1) := by decide +kernel
theorem dX10_other_91 : decode cX10_other 91 = .ok (.aload_n 0, 1) := by decide +kernel
theorem dX10_other_92 : decode cX10_other 92 = .ok (.iload_n 3, 1) := by decide +kernel
theorem dX10_other_93 : decode cX10_other 93 = .ok (.bipush 9, 2) := by decide +kernel
theorem dX10_other_95 : decode cX10_other 95 = .ok (.invokevirtual 333, 3) := by decide +kernel
theorem dX10_other_98 : decode cX10_other 98 = .ok (.imul, 1) := by decide +kernel
theorem dX10_other_99 : decode cX10_other 99 = .ok (.aload_n 0, 1) := by decide +kernel
theorem dX10_other_100 : decode cX10_other 100 = .ok (.iload_n 3, 1) := by decide +kernel
theorem dX10_other_101 : decode cX10_other 101 = .ok (.bipush 10, 2) := by decide +kernel
theorem dX10_other_103 : decode cX10_other 103 = .ok (.invokevirtual 333, 3) := by decide +kernel
theorem dX10_other_106 : decode cX10_other 106 = .ok (.iadd, 1) := by decide +kernel
theorem dX10_other_107 : decode cX10_other 107 = .ok (.iload 8, 2) := by decide +kernel
theorem dX10_other_109 : decode cX10_other 109 = .ok (.iconst 5, 1) := by decide +kernel
theorem dX10_other_110 : decode cX10_other 110 = .ok (.if_icmp .ne 13, 3) := by decide +kernel
theorem dX10_other_113 : decode cX10_other 113 = .ok (.aload_n 0, 1) := by decide +kernel
theorem dX10_other_114 : decode cX10_other 114 = .ok (.iload_n 3, 1) := by decide +kernel
theorem dX10_other_115 : decode cX10_other 115 = .ok (.bipush 11, 2) := by decide +kernel
theorem dX10_other_117 : decode cX10_other 117 = .ok (.invokevirtual 333, 3) := by decide +kernel
theorem dX10_other_120 : decode cX10_other 120 = .ok (.goto 4, 3) := by decide +kernel
theorem dX10_other_123 : decode cX10_other 123 = .ok (.iconst 0, 1) := by decide +kernel
theorem dX10_other_124 : decode cX10_other 124 = .ok (.iadd, 1) := by decide +kernel
theorem dX10_other_125 : decode cX10_other 125 = .ok (.iadd, 1) := by decide +kernel
theorem dX10_other_126 : decode cX10_other 126 = .ok (.istore 5, 2) := by decide +kernel
theorem dX10_other_128 : decode cX10_other 128 = .ok (.iinc 6 1, 3) := by decide +kernel
theorem dX10_other_131 : decode cX10_other 131 = .ok (.goto (-92), 3) := by decide +kernel
theorem dX10_other_134 : decode cX10_other 134 = .ok (.iload_n 2, 1) := by decide +kernel
theorem dX10_other_135 : decode cX10_other 135 = .ok (.bipush 6, 2) := by decide +kernel
theorem dX10_other_137 : decode cX10_other 137 = .ok (.if_icmp .ne 8, 3) := by decide +kernel
theorem dX10_other_140 : decode cX10_other 140 = .ok (.iload 5, 2) := by decide +kernel
theorem dX10_other_142 : decode cX10_other 142 = .ok (.goto 5, 3) := by decide +kernel
theorem dX10_other_145 : decode cX10_other 145 = .ok (.iload 4, 2) := by decide +kernel
theorem dX10_other_147 : decode cX10_other 147 = .ok (.ireturn, 1) := by decide +kernel
theorem dX10_count_0 : decode cX10_count 0 = .ok (.iconst 0, 1) := by decide +kernel
theorem dX10_count_1 : decode cX10_count 1 = .ok (.istore_n 2, 1) := by decide +kernel
theorem dX10_count_2 : decode cX10_count 2 = .ok (.iload_n 1, 1) := by decide +kernel
theorem dX10_count_3 : decode cX10_count 3 = .ok (.tableswitch 133 0 8 #[49, 54, 59, 64, 108, 113, 118, 123, 128], 49) := by decide +kernel
theorem dX10_count_52 : decode cX10_count 52 = .ok (.aload_n 0, 1) := by decide +kernel
theorem dX10_count_53 : decode cX10_count 53 = .ok (.getfield 232, 3) := by decide +kernel
theorem dX10_count_56 : decode cX10_count 56 = .ok (.ireturn, 1) := by decide +kernel
theorem dX10_count_57 : decode cX10_count 57 = .ok (.aload_n 0, 1) := by decide +kernel
theorem dX10_count_58 : decode cX10_count 58 = .ok (.getfield 321, 3) := by decide +kernel
theorem dX10_count_61 : decode cX10_count 61 = .ok (.ireturn, 1) := by decide +kernel
theorem dX10_count_62 : decode cX10_count 62 = .ok (.aload_n 0, 1) := by decide +kernel
theorem dX10_count_63 : decode cX10_count 63 = .ok (.getfield 337, 3) := by decide +kernel
theorem dX10_count_66 : decode cX10_count 66 = .ok (.ireturn, 1) := by decide +kernel
theorem dX10_count_67 : decode cX10_count 67 = .ok (.iconst 0, 1) := by decide +kernel
theorem dX10_count_68 : decode cX10_count 68 = .ok (.istore_n 3, 1) := by decide +kernel
theorem dX10_count_69 : decode cX10_count 69 = .ok (.iload_n 3, 1) := by decide +kernel
theorem dX10_count_70 : decode cX10_count 70 = .ok (.aload_n 0, 1) := by decide +kernel
theorem dX10_count_71 : decode cX10_count 71 = .ok (.getfield 337, 3) := by decide +kernel
theorem dX10_count_74 : decode cX10_count 74 = .ok (.if_icmp .ge 35, 3) := by decide +kernel
theorem dX10_count_77 : decode cX10_count 77 = .ok (.iload_n 2, 1) := by decide +kernel
theorem dX10_count_78 : decode cX10_count 78 = .ok (.aload_n 0, 1) := by decide +kernel
theorem dX10_count_79 : decode cX10_count 79 = .ok (.getfield 60, 3) := by decide +kernel
theorem dX10_count_82 : decode cX10_count 82 = .ok (.iload_n 3, 1) := by decide +kernel
theorem dX10_count_83 : decode cX10_count 83 = .ok (.baload, 1) := by decide +kernel
theorem dX10_count_84 : decode cX10_count 84 = .ok (.ifCond .eq 16, 3) := by decide +kernel
theorem dX10_count_87 : decode cX10_count 87 = .ok (.aload_n 0, 1) := by decide +kernel
theorem dX10_count_88 : decode cX10_count 88 = .ok (.getfield 56, 3) := by decide +kernel
theorem dX10_count_91 : decode cX10_count 91 = .ok (.iload_n 3, 1) := by decide +kernel
theorem dX10_count_92 : decode cX10_count 92 = .ok (.baload, 1) := by decide +kernel
theorem dX10_count_93 : decode cX10_count 93 = .ok (.ifCond .ne 7, 3) := by decide +kernel
theorem dX10_count_96 : decode cX10_count 96 = .ok (.iconst 1, 1) := by decide +kernel
theorem dX10_count_97 : decode cX10_count 97 = .ok (.goto 4, 3) := by decide +kernel
theorem dX10_count_100 : decode cX10_count 100 = .ok (.iconst 0, 1) := by decide +kernel
theorem dX10_count_101 : decode cX10_count 101 = .ok (.iadd, 1) := by decide +kernel
theorem dX10_count_102 : decode cX10_count 102 = .ok (.istore_n 2, 1) := by decide +kernel
theorem dX10_count_103 : decode cX10_count 103 = .ok (.iinc 3 1, 3) := by decide +kernel
theorem dX10_count_106 : decode cX10_count 106 = .ok (.goto (-37), 3) := by decide +kernel
theorem dX10_count_109 : decode cX10_count 109 = .ok (.iload_n 2, 1) := by decide +kernel
theorem dX10_count_110 : decode cX10_count 110 = .ok (.ireturn, 1) := by decide +kernel
theorem dX10_count_111 : decode cX10_count 111 = .ok (.aload_n 0, 1) := by decide +kernel
theorem dX10_count_112 : decode cX10_count 112 = .ok (.getfield 351, 3) := by decide +kernel
theorem dX10_count_115 : decode cX10_count 115 = .ok (.ireturn, 1) := by decide +kernel
theorem dX10_count_116 : decode cX10_count 116 = .ok (.aload_n 0, 1) := by decide +kernel
theorem dX10_count_117 : decode cX10_count 117 = .ok (.getfield 367, 3) := by decide +kernel
theorem dX10_count_120 : decode cX10_count 120 = .ok (.ireturn, 1) := by decide +kernel
theorem dX10_count_121 : decode cX10_count 121 = .ok (.aload_n 0, 1) := by decide +kernel
theorem dX10_count_122 : decode cX10_count 122 = .ok (.getfield 413, 3) := by decide +kernel
theorem dX10_count_125 : decode cX10_count 125 = .ok (.ireturn, 1) := by decide +kernel
theorem dX10_count_126 : decode cX10_count 126 = .ok (.aload_n 0, 1) := by decide +kernel
theorem dX10_count_127 : decode cX10_count 127 = .ok (.getfield 236, 3) := by decide +kernel
theorem dX10_count_130 : decode cX10_count 130 = .ok (.ireturn, 1) := by decide +kernel
theorem dX10_count_131 : decode cX10_count 131 = .ok (.aload_n 0, 1) := by decide +kernel
theorem dX10_count_132 : decode cX10_count 132 = .ok (.getfield 468, 3) := by decide +kernel
theorem dX10_count_135 : decode cX10_count 135 = .ok (.ireturn, 1) := by decide +kernel
theorem dX10_count_136 : decode cX10_count 136 = .ok (.iconst (-1), 1) := by decide +kernel
theorem dX10_count_137 : decode cX10_count 137 = .ok (.ireturn, 1) := by decide +kernel
theorem dJ9_abs_0f7a4_0 : decode cJ9_abs_0f7a4 0 = .ok (.iload_n 0, 1) := by decide +kernel
theorem dJ9_abs_0f7a4_1 : decode cJ9_abs_0f7a4 1 = .ok (.ifCond .ge 8, 3) := by decide +kernel
theorem dJ9_abs_0f7a4_4 : decode cJ9_abs_0f7a4 4 = .ok (.iload_n 0, 1) := by decide +kernel
theorem dJ9_abs_0f7a4_5 : decode cJ9_abs_0f7a4 5 = .ok (.ineg, 1) := by decide +kernel
theorem dJ9_abs_0f7a4_6 : decode cJ9_abs_0f7a4 6 = .ok (.goto 4, 3) := by decide +kernel
theorem dJ9_abs_0f7a4_9 : decode cJ9_abs_0f7a4 9 = .ok (.iload_n 0, 1) := by decide +kernel
theorem dJ9_abs_0f7a4_10 : decode cJ9_abs_0f7a4 10 = .ok (.ireturn, 1) := by decide +kernel
theorem dJ9_max_7cf53_0 : decode cJ9_max_7cf53 0 = .ok (.iload_n 0, 1) := by decide +kernel
theorem dJ9_max_7cf53_1 : decode cJ9_max_7cf53 1 = .ok (.iload_n 1, 1) := by decide +kernel
theorem dJ9_max_7cf53_2 : decode cJ9_max_7cf53 2 = .ok (.if_icmp .lt 7, 3) := by decide +kernel
theorem dJ9_max_7cf53_5 : decode cJ9_max_7cf53 5 = .ok (.iload_n 0, 1) := by decide +kernel
theorem dJ9_max_7cf53_6 : decode cJ9_max_7cf53 6 = .ok (.goto 4, 3) := by decide +kernel
theorem dJ9_max_7cf53_9 : decode cJ9_max_7cf53 9 = .ok (.iload_n 1, 1) := by decide +kernel
theorem dJ9_max_7cf53_10 : decode cJ9_max_7cf53 10 = .ok (.ireturn, 1) := by decide +kernel
theorem dJ9_min_7cf53_0 : decode cJ9_min_7cf53 0 = .ok (.iload_n 0, 1) := by decide +kernel
theorem dJ9_min_7cf53_1 : decode cJ9_min_7cf53 1 = .ok (.iload_n 1, 1) := by decide +kernel
theorem dJ9_min_7cf53_2 : decode cJ9_min_7cf53 2 = .ok (.if_icmp .gt 7, 3) := by decide +kernel
theorem dJ9_min_7cf53_5 : decode cJ9_min_7cf53 5 = .ok (.iload_n 0, 1) := by decide +kernel
theorem dJ9_min_7cf53_6 : decode cJ9_min_7cf53 6 = .ok (.goto 4, 3) := by decide +kernel
theorem dJ9_min_7cf53_9 : decode cJ9_min_7cf53 9 = .ok (.iload_n 1, 1) := by decide +kernel
theorem dJ9_min_7cf53_10 : decode cJ9_min_7cf53 10 = .ok (.ireturn, 1) := by decide +kernel
theorem dJ0_length_8abf5_0 : decode cJ0_length_8abf5 0 = .ok (.aload_n 0, 1) := by decide +kernel
theorem dJ0_length_8abf5_1 : decode cJ0_length_8abf5 1 = .ok (.getfield 9, 3) := by decide +kernel
theorem dJ0_length_8abf5_4 : decode cJ0_length_8abf5 4 = .ok (.arraylength, 1) := by decide +kernel
theorem dJ0_length_8abf5_5 : decode cJ0_length_8abf5 5 = .ok (.aload_n 0, 1) := by decide +kernel
theorem dJ0_length_8abf5_6 : decode cJ0_length_8abf5 6 = .ok (.invokevirtual 335, 3) := by decide +kernel
theorem dJ0_length_8abf5_9 : decode cJ0_length_8abf5 9 = .ok (.ishr, 1) := by decide +kernel
theorem dJ0_length_8abf5_10 : decode cJ0_length_8abf5 10 = .ok (.ireturn, 1) := by decide +kernel
theorem dJ0_charAt_5068e_0 : decode cJ0_charAt_5068e 0 = .ok (.aload_n 0, 1) := by decide +kernel
theorem dJ0_charAt_5068e_1 : decode cJ0_charAt_5068e 1 = .ok (.invokevirtual 492, 3) := by decide +kernel
theorem dJ0_charAt_5068e_4 : decode cJ0_charAt_5068e 4 = .ok (.ifCond .eq 12, 3) := by decide +kernel
theorem dJ0_charAt_5068e_7 : decode cJ0_charAt_5068e 7 = .ok (.aload_n 0, 1) := by decide +kernel
theorem dJ0_charAt_5068e_8 : decode cJ0_charAt_5068e 8 = .ok (.getfield 9, 3) := by decide +kernel
theorem dJ0_charAt_5068e_11 : decode cJ0_charAt_5068e 11 = .ok (.iload_n 1, 1) := by decide +kernel
theorem dJ0_charAt_5068e_12 : decode cJ0_charAt_5068e 12 = .ok (.invokestatic 495, 3) := by decide +kernel
theorem dJ0_charAt_5068e_15 : decode cJ0_charAt_5068e 15 = .ok (.ireturn, 1) := by decide +kernel
theorem dJ0_charAt_5068e_16 : decode cJ0_charAt_5068e 16 = .ok (.aload_n 0, 1) := by decide +kernel
theorem dJ0_charAt_5068e_17 : decode cJ0_charAt_5068e 17 = .ok (.getfield 9, 3) := by decide +kernel
theorem dJ0_charAt_5068e_20 : decode cJ0_charAt_5068e 20 = .ok (.iload_n 1, 1) := by decide +kernel
theorem dJ0_charAt_5068e_21 : decode cJ0_charAt_5068e 21 = .ok (.invokestatic 498, 3) := by decide +kernel
theorem dJ0_charAt_5068e_24 : decode cJ0_charAt_5068e 24 = .ok (.ireturn, 1) := by decide +kernel
theorem dJ0_coder_7d493_0 : decode cJ0_coder_7d493 0 = .ok (.getstatic 38, 3) := by decide +kernel
theorem dJ0_coder_7d493_3 : decode cJ0_coder_7d493 3 = .ok (.ifCond .eq 10, 3) := by decide +kernel
theorem dJ0_coder_7d493_6 : decode cJ0_coder_7d493 6 = .ok (.aload_n 0, 1) := by decide +kernel
theorem dJ0_coder_7d493_7 : decode cJ0_coder_7d493 7 = .ok (.getfield 15, 3) := by decide +kernel
theorem dJ0_coder_7d493_10 : decode cJ0_coder_7d493 10 = .ok (.goto 4, 3) := by decide +kernel
theorem dJ0_coder_7d493_13 : decode cJ0_coder_7d493 13 = .ok (.iconst 1, 1) := by decide +kernel
theorem dJ0_coder_7d493_14 : decode cJ0_coder_7d493 14 = .ok (.ireturn, 1) := by decide +kernel
theorem dJ0_isLatin1_aae02_0 : decode cJ0_isLatin1_aae02 0 = .ok (.getstatic 38, 3) := by decide +kernel
theorem dJ0_isLatin1_aae02_3 : decode cJ0_isLatin1_aae02 3 = .ok (.ifCond .eq 14, 3) := by decide +kernel
theorem dJ0_isLatin1_aae02_6 : decode cJ0_isLatin1_aae02 6 = .ok (.aload_n 0, 1) := by decide +kernel
theorem dJ0_isLatin1_aae02_7 : decode cJ0_isLatin1_aae02 7 = .ok (.getfield 15, 3) := by decide +kernel
theorem dJ0_isLatin1_aae02_10 : decode cJ0_isLatin1_aae02 10 = .ok (.ifCond .ne 7, 3) := by decide +kernel
theorem dJ0_isLatin1_aae02_13 : decode cJ0_isLatin1_aae02 13 = .ok (.iconst 1, 1) := by decide +kernel
theorem dJ0_isLatin1_aae02_14 : decode cJ0_isLatin1_aae02 14 = .ok (.goto 4, 3) := by decide +kernel
theorem dJ0_isLatin1_aae02_17 : decode cJ0_isLatin1_aae02 17 = .ok (.iconst 0, 1) := by decide +kernel
theorem dJ0_isLatin1_aae02_18 : decode cJ0_isLatin1_aae02 18 = .ok (.ireturn, 1) := by decide +kernel
theorem dJ0_checkIndex_df160_0 : decode cJ0_checkIndex_df160 0 = .ok (.iload_n 0, 1) := by decide +kernel
theorem dJ0_checkIndex_df160_1 : decode cJ0_checkIndex_df160 1 = .ok (.iload_n 1, 1) := by decide +kernel
theorem dJ0_checkIndex_df160_2 : decode cJ0_checkIndex_df160 2 = .ok (.getstatic 1053, 3) := by decide +kernel
theorem dJ0_checkIndex_df160_5 : decode cJ0_checkIndex_df160 5 = .ok (.invokestatic 1059, 3) := by decide +kernel
theorem dJ0_checkIndex_df160_8 : decode cJ0_checkIndex_df160 8 = .ok (.pop, 1) := by decide +kernel
theorem dJ0_checkIndex_df160_9 : decode cJ0_checkIndex_df160 9 = .ok (.return_, 1) := by decide +kernel
theorem dJ1_charAt_3b067_0 : decode cJ1_charAt_3b067 0 = .ok (.iload_n 1, 1) := by decide +kernel
theorem dJ1_charAt_3b067_1 : decode cJ1_charAt_3b067 1 = .ok (.aload_n 0, 1) := by decide +kernel
theorem dJ1_charAt_3b067_2 : decode cJ1_charAt_3b067 2 = .ok (.arraylength, 1) := by decide +kernel
theorem dJ1_charAt_3b067_3 : decode cJ1_charAt_3b067 3 = .ok (.invokestatic 9, 3) := by decide +kernel
theorem dJ1_charAt_3b067_6 : decode cJ1_charAt_3b067 6 = .ok (.aload_n 0, 1) := by decide +kernel
theorem dJ1_charAt_3b067_7 : decode cJ1_charAt_3b067 7 = .ok (.iload_n 1, 1) := by decide +kernel
theorem dJ1_charAt_3b067_8 : decode cJ1_charAt_3b067 8 = .ok (.baload, 1) := by decide +kernel
theorem dJ1_charAt_3b067_9 : decode cJ1_charAt_3b067 9 = .ok (.sipush 255, 3) := by decide +kernel
theorem dJ1_charAt_3b067_12 : decode cJ1_charAt_3b067 12 = .ok (.iand, 1) := by decide +kernel
theorem dJ1_charAt_3b067_13 : decode cJ1_charAt_3b067 13 = .ok (.i2c, 1) := by decide +kernel
theorem dJ1_charAt_3b067_14 : decode cJ1_charAt_3b067 14 = .ok (.ireturn, 1) := by decide +kernel
theorem dJ2_getChar_3b067_0 : decode cJ2_getChar_3b067 0 = .ok (.getstatic 44, 3) := by decide +kernel
theorem dJ2_getChar_3b067_3 : decode cJ2_getChar_3b067 3 = .ok (.ifCond .ne 25, 3) := by decide +kernel
theorem dJ2_getChar_3b067_6 : decode cJ2_getChar_3b067 6 = .ok (.iload_n 1, 1) := by decide +kernel
theorem dJ2_getChar_3b067_7 : decode cJ2_getChar_3b067 7 = .ok (.ifCond .lt 11, 3) := by decide +kernel
theorem dJ2_getChar_3b067_10 : decode cJ2_getChar_3b067 10 = .ok (.iload_n 1, 1) := by decide +kernel
theorem dJ2_getChar_3b067_11 : decode cJ2_getChar_3b067 11 = .ok (.aload_n 0, 1) := by decide +kernel
theorem dJ2_getChar_3b067_12 : decode cJ2_getChar_3b067 12 = .ok (.invokestatic 48, 3) := by decide +kernel
theorem dJ2_getChar_3b067_15 : decode cJ2_getChar_3b067 15 = .ok (.if_icmp .lt 13, 3) := by decide +kernel
theorem dJ2_getChar_3b067_18 : decode cJ2_getChar_3b067 18 = .ok (.new 52, 3) := by decide +kernel
theorem dJ2_getChar_3b067_21 : decode cJ2_getChar_3b067 21 = .ok (.dup, 1) := by decide +kernel
theorem dJ2_getChar_3b067_22 : decode cJ2_getChar_3b067 22 = .ok (.ldc 54, 2) := by decide +kernel
theorem dJ2_getChar_3b067_24 : decode cJ2_getChar_3b067 24 = .ok (.invokespecial 56, 3) := by decide +kernel
theorem dJ2_getChar_3b067_27 : decode cJ2_getChar_3b067 27 = .ok (.athrow, 1) := by decide +kernel
theorem dJ2_getChar_3b067_28 : decode cJ2_getChar_3b067 28 = .ok (.iload_n 1, 1) := by decide +kernel
theorem dJ2_getChar_3b067_29 : decode cJ2_getChar_3b067 29 = .ok (.iconst 1, 1) := by decide +kernel
theorem dJ2_getChar_3b067_30 : decode cJ2_getChar_3b067 30 = .ok (.ishl, 1) := by decide +kernel
theorem dJ2_getChar_3b067_31 : decode cJ2_getChar_3b067 31 = .ok (.istore_n 1, 1) := by decide +kernel
theorem dJ2_getChar_3b067_32 : decode cJ2_getChar_3b067 32 = .ok (.aload_n 0, 1) := by decide +kernel
theorem dJ2_getChar_3b067_33 : decode cJ2_getChar_3b067 33 = .ok (.iload_n 1, 1) := by decide +kernel
theorem dJ2_getChar_3b067_34 : decode cJ2_getChar_3b067 34 = .ok (.iinc 1 1, 3) := by decide +kernel
theorem dJ2_getChar_3b067_37 : decode cJ2_getChar_3b067 37 = .ok (.baload, 1) := by decide +kernel
theorem dJ2_getChar_3b067_38 : decode cJ2_getChar_3b067 38 = .ok (.sipush 255, 3) := by decide +kernel
theorem dJ2_getChar_3b067_41 : decode cJ2_getChar_3b067 41 = .ok (.iand, 1) := by decide +kernel
theorem dJ2_getChar_3b067_42 : decode cJ2_getChar_3b067 42 = .ok (.getstatic 59, 3) := by decide +kernel
theorem dJ2_getChar_3b067_45 : decode cJ2_getChar_3b067 45 = .ok (.ishl, 1) := by decide +kernel
theorem dJ2_getChar_3b067_46 : decode cJ2_getChar_3b067 46 = .ok (.aload_n 0, 1) := by decide +kernel
theorem dJ2_getChar_3b067_47 : decode cJ2_getChar_3b067 47 = .ok (.iload_n 1, 1) := by decide +kernel
theorem dJ2_getChar_3b067_48 : decode cJ2_getChar_3b067 48 = .ok (.baload, 1) := by decide +kernel
theorem dJ2_getChar_3b067_49 : decode cJ2_getChar_3b067 49 = .ok (.sipush 255, 3) := by decide +kernel
theorem dJ2_getChar_3b067_52 : decode cJ2_getChar_3b067 52 = .ok (.iand, 1) := by decide +kernel
theorem dJ2_getChar_3b067_53 : decode cJ2_getChar_3b067 53 = .ok (.getstatic 63, 3) := by decide +kernel
theorem dJ2_getChar_3b067_56 : decode cJ2_getChar_3b067 56 = .ok (.ishl, 1) := by decide +kernel
theorem dJ2_getChar_3b067_57 : decode cJ2_getChar_3b067 57 = .ok (.ior, 1) := by decide +kernel
theorem dJ2_getChar_3b067_58 : decode cJ2_getChar_3b067 58 = .ok (.i2c, 1) := by decide +kernel
theorem dJ2_getChar_3b067_59 : decode cJ2_getChar_3b067 59 = .ok (.ireturn, 1) := by decide +kernel
theorem dJ2_length_9d52b_0 : decode cJ2_length_9d52b 0 = .ok (.aload_n 0, 1) := by decide +kernel
theorem dJ2_length_9d52b_1 : decode cJ2_length_9d52b 1 = .ok (.arraylength, 1) := by decide +kernel
theorem dJ2_length_9d52b_2 : decode cJ2_length_9d52b 2 = .ok (.iconst 1, 1) := by decide +kernel
theorem dJ2_length_9d52b_3 : decode cJ2_length_9d52b 3 = .ok (.ishr, 1) := by decide +kernel
theorem dJ2_length_9d52b_4 : decode cJ2_length_9d52b 4 = .ok (.ireturn, 1) := by decide +kernel
theorem dJ2_charAt_3b067_0 : decode cJ2_charAt_3b067 0 = .ok (.iload_n 1, 1) := by decide +kernel
theorem dJ2_charAt_3b067_1 : decode cJ2_charAt_3b067 1 = .ok (.aload_n 0, 1) := by decide +kernel
theorem dJ2_charAt_3b067_2 : decode cJ2_charAt_3b067 2 = .ok (.invokestatic 67, 3) := by decide +kernel
theorem dJ2_charAt_3b067_5 : decode cJ2_charAt_3b067 5 = .ok (.aload_n 0, 1) := by decide +kernel
theorem dJ2_charAt_3b067_6 : decode cJ2_charAt_3b067 6 = .ok (.iload_n 1, 1) := by decide +kernel
theorem dJ2_charAt_3b067_7 : decode cJ2_charAt_3b067 7 = .ok (.invokestatic 71, 3) := by decide +kernel
theorem dJ2_charAt_3b067_10 : decode cJ2_charAt_3b067 10 = .ok (.ireturn, 1) := by decide +kernel
theorem dJ2_checkIndex_2214a_0 : decode cJ2_checkIndex_2214a 0 = .ok (.iload_n 0, 1) := by decide +kernel
theorem dJ2_checkIndex_2214a_1 : decode cJ2_checkIndex_2214a 1 = .ok (.aload_n 1, 1) := by decide +kernel
theorem dJ2_checkIndex_2214a_2 : decode cJ2_checkIndex_2214a 2 = .ok (.invokestatic 48, 3) := by decide +kernel
theorem dJ2_checkIndex_2214a_5 : decode cJ2_checkIndex_2214a 5 = .ok (.invokestatic 414, 3) := by decide +kernel
theorem dJ2_checkIndex_2214a_8 : decode cJ2_checkIndex_2214a 8 = .ok (.return_, 1) := by decide +kernel
theorem dJ3_checkIndex_8e157_0 : decode cJ3_checkIndex_8e157 0 = .ok (.iload_n 0, 1) := by decide +kernel
theorem dJ3_checkIndex_8e157_1 : decode cJ3_checkIndex_8e157 1 = .ok (.ifCond .lt 8, 3) := by decide +kernel
theorem dJ3_checkIndex_8e157_4 : decode cJ3_checkIndex_8e157 4 = .ok (.iload_n 0, 1) := by decide +kernel
theorem dJ3_checkIndex_8e157_5 : decode cJ3_checkIndex_8e157 5 = .ok (.iload_n 1, 1) := by decide +kernel
theorem dJ3_checkIndex_8e157_6 : decode cJ3_checkIndex_8e157 6 = .ok (.if_icmp .lt 10, 3) := by decide +kernel
theorem dJ3_checkIndex_8e157_9 : decode cJ3_checkIndex_8e157 9 = .ok (.aload_n 2, 1) := by decide +kernel
theorem dJ3_checkIndex_8e157_10 : decode cJ3_checkIndex_8e157 10 = .ok (.iload_n 0, 1) := by decide +kernel
theorem dJ3_checkIndex_8e157_11 : decode cJ3_checkIndex_8e157 11 = .ok (.iload_n 1, 1) := by decide +kernel
theorem dJ3_checkIndex_8e157_12 : decode cJ3_checkIndex_8e157 12 = .ok (.invokestatic 95, 3) := by decide +kernel
theorem dJ3_checkIndex_8e157_15 : decode cJ3_checkIndex_8e157 15 = .ok (.athrow, 1) := by decide +kernel
theorem dJ3_checkIndex_8e157_16 : decode cJ3_checkIndex_8e157 16 = .ok (.iload_n 0, 1) := by decide +kernel
theorem dJ3_checkIndex_8e157_17 : decode cJ3_checkIndex_8e157 17 = .ok (.ireturn, 1) := by decide +kernel
theorem dL_law_0 : decode cL_law 0 = .ok (.new 7, 3) := by decide +kernel
theorem dL_law_3 : decode cL_law 3 = .ok (.dup, 1) := by decide +kernel
theorem dL_law_4 : decode cL_law 4 = .ok (.invokespecial 9, 3) := by decide +kernel
theorem dL_law_7 : decode cL_law 7 = .ok (.astore_n 1, 1) := by decide +kernel
theorem dL_law_8 : decode cL_law 8 = .ok (.new 10, 3) := by decide +kernel
theorem dL_law_11 : decode cL_law 11 = .ok (.dup, 1) := by decide +kernel
theorem dL_law_12 : decode cL_law 12 = .ok (.invokespecial 12, 3) := by decide +kernel
theorem dL_law_15 : decode cL_law 15 = .ok (.astore_n 2, 1) := by decide +kernel
theorem dL_law_16 : decode cL_law 16 = .ok (.iconst 0, 1) := by decide +kernel
theorem dL_law_17 : decode cL_law 17 = .ok (.istore_n 3, 1) := by decide +kernel
theorem dL_law_18 : decode cL_law 18 = .ok (.iload_n 3, 1) := by decide +kernel
theorem dL_law_19 : decode cL_law 19 = .ok (.aload_n 0, 1) := by decide +kernel
theorem dL_law_20 : decode cL_law 20 = .ok (.arraylength, 1) := by decide +kernel
theorem dL_law_21 : decode cL_law 21 = .ok (.bipush 7, 2) := by decide +kernel
theorem dL_law_23 : decode cL_law 23 = .ok (.isub, 1) := by decide +kernel
theorem dL_law_24 : decode cL_law 24 = .ok (.if_icmp .gt 1361, 3) := by decide +kernel
theorem dL_law_27 : decode cL_law 27 = .ok (.aload_n 0, 1) := by decide +kernel
theorem dL_law_28 : decode cL_law 28 = .ok (.iload_n 3, 1) := by decide +kernel
theorem dL_law_29 : decode cL_law 29 = .ok (.iaload, 1) := by decide +kernel
theorem dL_law_30 : decode cL_law 30 = .ok (.bipush 31, 2) := by decide +kernel
theorem dL_law_32 : decode cL_law 32 = .ok (.iand, 1) := by decide +kernel
theorem dL_law_33 : decode cL_law 33 = .ok (.tableswitch 1346 0 30 #[139, 162, 225, 248, 271, 304, 379, 442, 465, 514, 577, 630, 721, 770, 855, 888, 931, 954, 987, 1010, 1043, 1096, 1129, 1162, 1175, 1198, 1221, 1234, 1257, 1290, 1323], 139) := by decide +kernel
theorem dL_law_172 : decode cL_law 172 = .ok (.aload_n 1, 1) := by decide +kernel
theorem dL_law_173 : decode cL_law 173 = .ok (.aload_n 0, 1) := by decide +kernel
theorem dL_law_174 : decode cL_law 174 = .ok (.iload_n 3, 1) := by decide +kernel
theorem dL_law_175 : decode cL_law 175 = .ok (.iconst 1, 1) := by decide +kernel
theorem dL_law_176 : decode cL_law 176 = .ok (.iadd, 1) := by decide +kernel
theorem dL_law_177 : decode cL_law 177 = .ok (.iaload, 1) := by decide +kernel
theorem dL_law_178 : decode cL_law 178 = .ok (.invokevirtual 13, 3) := by decide +kernel
theorem dL_law_181 : decode cL_law 181 = .ok (.aload_n 2, 1) := by decide +kernel
theorem dL_law_182 : decode cL_law 182 = .ok (.aload_n 0, 1) := by decide +kernel
theorem dL_law_183 : decode cL_law 183 = .ok (.iload_n 3, 1) := by decide +kernel
theorem dL_law_184 : decode cL_law 184 = .ok (.iconst 1, 1) := by decide +kernel
theorem dL_law_185 : decode cL_law 185 = .ok (.iadd, 1) := by decide +kernel
theorem dL_law_186 : decode cL_law 186 = .ok (.iaload, 1) := by decide +kernel
theorem dL_law_187 : decode cL_law 187 = .ok (.invokevirtual 17, 3) := by decide +kernel
theorem dL_law_190 : decode cL_law 190 = .ok (.if_icmp .eq 1189, 3) := by decide +kernel
theorem dL_law_193 : decode cL_law 193 = .ok (.iconst 0, 1) := by decide +kernel
theorem dL_law_194 : decode cL_law 194 = .ok (.ireturn, 1) := by decide +kernel
theorem dL_law_195 : decode cL_law 195 = .ok (.aload_n 1, 1) := by decide +kernel
theorem dL_law_196 : decode cL_law 196 = .ok (.aload_n 0, 1) := by decide +kernel
theorem dL_law_197 : decode cL_law 197 = .ok (.iload_n 3, 1) := by decide +kernel
theorem dL_law_198 : decode cL_law 198 = .ok (.iconst 1, 1) := by decide +kernel
theorem dL_law_199 : decode cL_law 199 = .ok (.iadd, 1) := by decide +kernel
theorem dL_law_200 : decode cL_law 200 = .ok (.iaload, 1) := by decide +kernel
theorem dL_law_201 : decode cL_law 201 = .ok (.aload_n 0, 1) := by decide +kernel
theorem dL_law_202 : decode cL_law 202 = .ok (.iload_n 3, 1) := by decide +kernel
theorem dL_law_203 : decode cL_law 203 = .ok (.iconst 2, 1) := by decide +kernel
theorem dL_law_204 : decode cL_law 204 = .ok (.iadd, 1) := by decide +kernel
theorem dL_law_205 : decode cL_law 205 = .ok (.iaload, 1) := by decide +kernel
theorem dL_law_206 : decode cL_law 206 = .ok (.aload_n 0, 1) := by decide +kernel
theorem dL_law_207 : decode cL_law 207 = .ok (.iload_n 3, 1) := by decide +kernel
theorem dL_law_208 : decode cL_law 208 = .ok (.iconst 3, 1) := by decide +kernel
theorem dL_law_209 : decode cL_law 209 = .ok (.iadd, 1) := by decide +kernel
theorem dL_law_210 : decode cL_law 210 = .ok (.iaload, 1) := by decide +kernel
theorem dL_law_211 : decode cL_law 211 = .ok (.aload_n 0, 1) := by decide +kernel
theorem dL_law_212 : decode cL_law 212 = .ok (.iload_n 3, 1) := by decide +kernel
theorem dL_law_213 : decode cL_law 213 = .ok (.iconst 4, 1) := by decide +kernel
theorem dL_law_214 : decode cL_law 214 = .ok (.iadd, 1) := by decide +kernel
theorem dL_law_215 : decode cL_law 215 = .ok (.iaload, 1) := by decide +kernel
theorem dL_law_216 : decode cL_law 216 = .ok (.aload_n 0, 1) := by decide +kernel
theorem dL_law_217 : decode cL_law 217 = .ok (.iload_n 3, 1) := by decide +kernel
theorem dL_law_218 : decode cL_law 218 = .ok (.iconst 5, 1) := by decide +kernel
theorem dL_law_219 : decode cL_law 219 = .ok (.iadd, 1) := by decide +kernel
theorem dL_law_220 : decode cL_law 220 = .ok (.iaload, 1) := by decide +kernel
theorem dL_law_221 : decode cL_law 221 = .ok (.invokevirtual 18, 3) := by decide +kernel
theorem dL_law_224 : decode cL_law 224 = .ok (.aload_n 2, 1) := by decide +kernel
theorem dL_law_225 : decode cL_law 225 = .ok (.aload_n 0, 1) := by decide +kernel
theorem dL_law_226 : decode cL_law 226 = .ok (.iload_n 3, 1) := by decide +kernel
theorem dL_law_227 : decode cL_law 227 = .ok (.iconst 1, 1) := by decide +kernel
theorem dL_law_228 : decode cL_law 228 = .ok (.iadd, 1) := by decide +kernel
theorem dL_law_229 : decode cL_law 229 = .ok (.iaload, 1) := by decide +kernel
theorem dL_law_230 : decode cL_law 230 = .ok (.aload_n 0, 1) := by decide +kernel
theorem dL_law_231 : decode cL_law 231 = .ok (.iload_n 3, 1) := by decide +kernel
theorem dL_law_232 : decode cL_law 232 = .ok (.iconst 2, 1) := by decide +kernel
theorem dL_law_233 : decode cL_law 233 = .ok (.iadd, 1) := by decide +kernel
theorem dL_law_234 : decode cL_law 234 = .ok (.iaload, 1) := by decide +kernel
theorem dL_law_235 : decode cL_law 235 = .ok (.aload_n 0, 1) := by decide +kernel
theorem dL_law_236 : decode cL_law 236 = .ok (.iload_n 3, 1) := by decide +kernel
theorem dL_law_237 : decode cL_law 237 = .ok (.iconst 3, 1) := by decide +kernel
theorem dL_law_238 : decode cL_law 238 = .ok (.iadd, 1) := by decide +kernel
theorem dL_law_239 : decode cL_law 239 = .ok (.iaload, 1) := by decide +kernel
theorem dL_law_240 : decode cL_law 240 = .ok (.aload_n 0, 1) := by decide +kernel
theorem dL_law_241 : decode cL_law 241 = .ok (.iload_n 3, 1) := by decide +kernel
theorem dL_law_242 : decode cL_law 242 = .ok (.iconst 4, 1) := by decide +kernel
theorem dL_law_243 : decode cL_law 243 = .ok (.iadd, 1) := by decide +kernel
theorem dL_law_244 : decode cL_law 244 = .ok (.iaload, 1) := by decide +kernel
theorem dL_law_245 : decode cL_law 245 = .ok (.aload_n 0, 1) := by decide +kernel
theorem dL_law_246 : decode cL_law 246 = .ok (.iload_n 3, 1) := by decide +kernel
theorem dL_law_247 : decode cL_law 247 = .ok (.iconst 5, 1) := by decide +kernel
theorem dL_law_248 : decode cL_law 248 = .ok (.iadd, 1) := by decide +kernel
theorem dL_law_249 : decode cL_law 249 = .ok (.iaload, 1) := by decide +kernel
theorem dL_law_250 : decode cL_law 250 = .ok (.invokevirtual 22, 3) := by decide +kernel
theorem dL_law_253 : decode cL_law 253 = .ok (.if_icmp .eq 1126, 3) := by decide +kernel
theorem dL_law_256 : decode cL_law 256 = .ok (.iconst 0, 1) := by decide +kernel
theorem dL_law_257 : decode cL_law 257 = .ok (.ireturn, 1) := by decide +kernel
theorem dL_law_258 : decode cL_law 258 = .ok (.aload_n 1, 1) := by decide +kernel
theorem dL_law_259 : decode cL_law 259 = .ok (.aload_n 0, 1) := by decide +kernel
theorem dL_law_260 : decode cL_law 260 = .ok (.iload_n 3, 1) := by decide +kernel
theorem dL_law_261 : decode cL_law 261 = .ok (.iconst 1, 1) := by decide +kernel
theorem dL_law_262 : decode cL_law 262 = .ok (.iadd, 1) := by decide +kernel
theorem dL_law_263 : decode cL_law 263 = .ok (.iaload, 1) := by decide +kernel
theorem dL_law_264 : decode cL_law 264 = .ok (.invokevirtual 23, 3) := by decide +kernel
theorem dL_law_267 : decode cL_law 267 = .ok (.aload_n 2, 1) := by decide +kernel
theorem dL_law_268 : decode cL_law 268 = .ok (.aload_n 0, 1) := by decide +kernel
theorem dL_law_269 : decode cL_law 269 = .ok (.iload_n 3, 1) := by decide +kernel
theorem dL_law_270 : decode cL_law 270 = .ok (.iconst 1, 1) := by decide +kernel
theorem dL_law_271 : decode cL_law 271 = .ok (.iadd, 1) := by decide +kernel
theorem dL_law_272 : decode cL_law 272 = .ok (.iaload, 1) := by decide +kernel
theorem dL_law_273 : decode cL_law 273 = .ok (.invokevirtual 27, 3) := by decide +kernel
theorem dL_law_276 : decode cL_law 276 = .ok (.if_icmp .eq 1103, 3) := by decide +kernel
theorem dL_law_279 : decode cL_law 279 = .ok (.iconst 0, 1) := by decide +kernel
theorem dL_law_280 : decode cL_law 280 = .ok (.ireturn, 1) := by decide +kernel
theorem dL_law_281 : decode cL_law 281 = .ok (.aload_n 1, 1) := by decide +kernel
theorem dL_law_282 : decode cL_law 282 = .ok (.aload_n 0, 1) := by decide +kernel
theorem dL_law_283 : decode cL_law 283 = .ok (.iload_n 3, 1) := by decide +kernel
theorem dL_law_284 : decode cL_law 284 = .ok (.iconst 1, 1) := by decide +kernel
theorem dL_law_285 : decode cL_law 285 = .ok (.iadd, 1) := by decide +kernel
theorem dL_law_286 : decode cL_law 286 = .ok (.iaload, 1) := by decide +kernel
theorem dL_law_287 : decode cL_law 287 = .ok (.invokevirtual 28, 3) := by decide +kernel
theorem dL_law_290 : decode cL_law 290 = .ok (.aload_n 2, 1) := by decide +kernel
theorem dL_law_291 : decode cL_law 291 = .ok (.aload_n 0, 1) := by decide +kernel
theorem dL_law_292 : decode cL_law 292 = .ok (.iload_n 3, 1) := by decide +kernel
theorem dL_law_293 : decode cL_law 293 = .ok (.iconst 1, 1) := by decide +kernel
theorem dL_law_294 : decode cL_law 294 = .ok (.iadd, 1) := by decide +kernel
theorem dL_law_295 : decode cL_law 295 = .ok (.iaload, 1) := by decide +kernel
theorem dL_law_296 : decode cL_law 296 = .ok (.invokevirtual 31, 3) := by decide +kernel
theorem dL_law_299 : decode cL_law 299 = .ok (.if_icmp .eq 1080, 3) := by decide +kernel
theorem dL_law_302 : decode cL_law 302 = .ok (.iconst 0, 1) := by decide +kernel
theorem dL_law_303 : decode cL_law 303 = .ok (.ireturn, 1) := by decide +kernel
theorem dL_law_304 : decode cL_law 304 = .ok (.aload_n 1, 1) := by decide +kernel
theorem dL_law_305 : decode cL_law 305 = .ok (.aload_n 0, 1) := by decide +kernel
theorem dL_law_306 : decode cL_law 306 = .ok (.iload_n 3, 1) := by decide +kernel
theorem dL_law_307 : decode cL_law 307 = .ok (.iconst 1, 1) := by decide +kernel
theorem dL_law_308 : decode cL_law 308 = .ok (.iadd, 1) := by decide +kernel
theorem dL_law_309 : decode cL_law 309 = .ok (.iaload, 1) := by decide +kernel
theorem dL_law_310 : decode cL_law 310 = .ok (.aload_n 0, 1) := by decide +kernel
theorem dL_law_311 : decode cL_law 311 = .ok (.iload_n 3, 1) := by decide +kernel
theorem dL_law_312 : decode cL_law 312 = .ok (.iconst 2, 1) := by decide +kernel
theorem dL_law_313 : decode cL_law 313 = .ok (.iadd, 1) := by decide +kernel
theorem dL_law_314 : decode cL_law 314 = .ok (.iaload, 1) := by decide +kernel
theorem dL_law_315 : decode cL_law 315 = .ok (.invokevirtual 32, 3) := by decide +kernel
theorem dL_law_318 : decode cL_law 318 = .ok (.aload_n 2, 1) := by decide +kernel
theorem dL_law_319 : decode cL_law 319 = .ok (.aload_n 0, 1) := by decide +kernel
theorem dL_law_320 : decode cL_law 320 = .ok (.iload_n 3, 1) := by decide +kernel
theorem dL_law_321 : decode cL_law 321 = .ok (.iconst 1, 1) := by decide +kernel
theorem dL_law_322 : decode cL_law 322 = .ok (.iadd, 1) := by decide +kernel
theorem dL_law_323 : decode cL_law 323 = .ok (.iaload, 1) := by decide +kernel
theorem dL_law_324 : decode cL_law 324 = .ok (.aload_n 0, 1) := by decide +kernel
theorem dL_law_325 : decode cL_law 325 = .ok (.iload_n 3, 1) := by decide +kernel
theorem dL_law_326 : decode cL_law 326 = .ok (.iconst 2, 1) := by decide +kernel
theorem dL_law_327 : decode cL_law 327 = .ok (.iadd, 1) := by decide +kernel
theorem dL_law_328 : decode cL_law 328 = .ok (.iaload, 1) := by decide +kernel
theorem dL_law_329 : decode cL_law 329 = .ok (.invokevirtual 36, 3) := by decide +kernel
theorem dL_law_332 : decode cL_law 332 = .ok (.if_icmp .eq 1047, 3) := by decide +kernel
theorem dL_law_335 : decode cL_law 335 = .ok (.iconst 0, 1) := by decide +kernel
theorem dL_law_336 : decode cL_law 336 = .ok (.ireturn, 1) := by decide +kernel
theorem dL_law_337 : decode cL_law 337 = .ok (.aload_n 1, 1) := by decide +kernel
theorem dL_law_338 : decode cL_law 338 = .ok (.aload_n 0, 1) := by decide +kernel
theorem dL_law_339 : decode cL_law 339 = .ok (.iload_n 3, 1) := by decide +kernel
theorem dL_law_340 : decode cL_law 340 = .ok (.iconst 1, 1) := by decide +kernel
theorem dL_law_341 : decode cL_law 341 = .ok (.iadd, 1) := by decide +kernel
theorem dL_law_342 : decode cL_law 342 = .ok (.iaload, 1) := by decide +kernel
theorem dL_law_343 : decode cL_law 343 = .ok (.aload_n 0, 1) := by decide +kernel
theorem dL_law_344 : decode cL_law 344 = .ok (.iload_n 3, 1) := by decide +kernel
theorem dL_law_345 : decode cL_law 345 = .ok (.iconst 2, 1) := by decide +kernel
theorem dL_law_346 : decode cL_law 346 = .ok (.iadd, 1) := by decide +kernel
theorem dL_law_347 : decode cL_law 347 = .ok (.iaload, 1) := by decide +kernel
theorem dL_law_348 : decode cL_law 348 = .ok (.aload_n 0, 1) := by decide +kernel
theorem dL_law_349 : decode cL_law 349 = .ok (.iload_n 3, 1) := by decide +kernel
theorem dL_law_350 : decode cL_law 350 = .ok (.iconst 3, 1) := by decide +kernel
theorem dL_law_351 : decode cL_law 351 = .ok (.iadd, 1) := by decide +kernel
theorem dL_law_352 : decode cL_law 352 = .ok (.iaload, 1) := by decide +kernel
theorem dL_law_353 : decode cL_law 353 = .ok (.aload_n 0, 1) := by decide +kernel
theorem dL_law_354 : decode cL_law 354 = .ok (.iload_n 3, 1) := by decide +kernel
theorem dL_law_355 : decode cL_law 355 = .ok (.iconst 4, 1) := by decide +kernel
theorem dL_law_356 : decode cL_law 356 = .ok (.iadd, 1) := by decide +kernel
theorem dL_law_357 : decode cL_law 357 = .ok (.iaload, 1) := by decide +kernel
theorem dL_law_358 : decode cL_law 358 = .ok (.aload_n 0, 1) := by decide +kernel
theorem dL_law_359 : decode cL_law 359 = .ok (.iload_n 3, 1) := by decide +kernel
theorem dL_law_360 : decode cL_law 360 = .ok (.iconst 5, 1) := by decide +kernel
theorem dL_law_361 : decode cL_law 361 = .ok (.iadd, 1) := by decide +kernel
theorem dL_law_362 : decode cL_law 362 = .ok (.iaload, 1) := by decide +kernel
theorem dL_law_363 : decode cL_law 363 = .ok (.aload_n 0, 1) := by decide +kernel
theorem dL_law_364 : decode cL_law 364 = .ok (.iload_n 3, 1) := by decide +kernel
theorem dL_law_365 : decode cL_law 365 = .ok (.bipush 6, 2) := by decide +kernel
theorem dL_law_367 : decode cL_law 367 = .ok (.iadd, 1) := by decide +kernel
theorem dL_law_368 : decode cL_law 368 = .ok (.iaload, 1) := by decide +kernel
theorem dL_law_369 : decode cL_law 369 = .ok (.invokevirtual 37, 3) := by decide +kernel
theorem dL_law_372 : decode cL_law 372 = .ok (.aload_n 2, 1) := by decide +kernel
theorem dL_law_373 : decode cL_law 373 = .ok (.aload_n 0, 1) := by decide +kernel
theorem dL_law_374 : decode cL_law 374 = .ok (.iload_n 3, 1) := by decide +kernel
theorem dL_law_375 : decode cL_law 375 = .ok (.iconst 1, 1) := by decide +kernel
theorem dL_law_376 : decode cL_law 376 = .ok (.iadd, 1) := by decide +kernel
theorem dL_law_377 : decode cL_law 377 = .ok (.iaload, 1) := by decide +kernel
theorem dL_law_378 : decode cL_law 378 = .ok (.aload_n 0, 1) := by decide +kernel
theorem dL_law_379 : decode cL_law 379 = .ok (.iload_n 3, 1) := by decide +kernel
theorem dL_law_380 : decode cL_law 380 = .ok (.iconst 2, 1) := by decide +kernel
theorem dL_law_381 : decode cL_law 381 = .ok (.iadd, 1) := by decide +kernel
theorem dL_law_382 : decode cL_law 382 = .ok (.iaload, 1) := by decide +kernel
theorem dL_law_383 : decode cL_law 383 = .ok (.aload_n 0, 1) := by decide +kernel
theorem dL_law_384 : decode cL_law 384 = .ok (.iload_n 3, 1) := by decide +kernel
theorem dL_law_385 : decode cL_law 385 = .ok (.iconst 3, 1) := by decide +kernel
theorem dL_law_386 : decode cL_law 386 = .ok (.iadd, 1) := by decide +kernel
theorem dL_law_387 : decode cL_law 387 = .ok (.iaload, 1) := by decide +kernel
theorem dL_law_388 : decode cL_law 388 = .ok (.aload_n 0, 1) := by decide +kernel
theorem dL_law_389 : decode cL_law 389 = .ok (.iload_n 3, 1) := by decide +kernel
theorem dL_law_390 : decode cL_law 390 = .ok (.iconst 4, 1) := by decide +kernel
theorem dL_law_391 : decode cL_law 391 = .ok (.iadd, 1) := by decide +kernel
theorem dL_law_392 : decode cL_law 392 = .ok (.iaload, 1) := by decide +kernel
theorem dL_law_393 : decode cL_law 393 = .ok (.aload_n 0, 1) := by decide +kernel
theorem dL_law_394 : decode cL_law 394 = .ok (.iload_n 3, 1) := by decide +kernel
theorem dL_law_395 : decode cL_law 395 = .ok (.iconst 5, 1) := by decide +kernel
theorem dL_law_396 : decode cL_law 396 = .ok (.iadd, 1) := by decide +kernel
theorem dL_law_397 : decode cL_law 397 = .ok (.iaload, 1) := by decide +kernel
theorem dL_law_398 : decode cL_law 398 = .ok (.aload_n 0, 1) := by decide +kernel
theorem dL_law_399 : decode cL_law 399 = .ok (.iload_n 3, 1) := by decide +kernel
theorem dL_law_400 : decode cL_law 400 = .ok (.bipush 6, 2) := by decide +kernel
theorem dL_law_402 : decode cL_law 402 = .ok (.iadd, 1) := by decide +kernel
theorem dL_law_403 : decode cL_law 403 = .ok (.iaload, 1) := by decide +kernel
theorem dL_law_404 : decode cL_law 404 = .ok (.invokevirtual 41, 3) := by decide +kernel
theorem dL_law_407 : decode cL_law 407 = .ok (.if_icmp .eq 972, 3) := by decide +kernel
theorem dL_law_410 : decode cL_law 410 = .ok (.iconst 0, 1) := by decide +kernel
theorem dL_law_411 : decode cL_law 411 = .ok (.ireturn, 1) := by decide +kernel
theorem dL_law_412 : decode cL_law 412 = .ok (.aload_n 1, 1) := by decide +kernel
theorem dL_law_413 : decode cL_law 413 = .ok (.aload_n 0, 1) := by decide +kernel
theorem dL_law_414 : decode cL_law 414 = .ok (.iload_n 3, 1) := by decide +kernel
theorem dL_law_415 : decode cL_law 415 = .ok (.iconst 1, 1) := by decide +kernel
theorem dL_law_416 : decode cL_law 416 = .ok (.iadd, 1) := by decide +kernel
theorem dL_law_417 : decode cL_law 417 = .ok (.iaload, 1) := by decide +kernel
theorem dL_law_418 : decode cL_law 418 = .ok (.aload_n 0, 1) := by decide +kernel
theorem dL_law_419 : decode cL_law 419 = .ok (.iload_n 3, 1) := by decide +kernel
theorem dL_law_420 : decode cL_law 420 = .ok (.iconst 2, 1) := by decide +kernel
theorem dL_law_421 : decode cL_law 421 = .ok (.iadd, 1) := by decide +kernel
theorem dL_law_422 : decode cL_law 422 = .ok (.iaload, 1) := by decide +kernel
theorem dL_law_423 : decode cL_law 423 = .ok (.aload_n 0, 1) := by decide +kernel
theorem dL_law_424 : decode cL_law 424 = .ok (.iload_n 3, 1) := by decide +kernel
theorem dL_law_425 : decode cL_law 425 = .ok (.iconst 3, 1) := by decide +kernel
theorem dL_law_426 : decode cL_law 426 = .ok (.iadd, 1) := by decide +kernel
theorem dL_law_427 : decode cL_law 427 = .ok (.iaload, 1) := by decide +kernel
theorem dL_law_428 : decode cL_law 428 = .ok (.aload_n 0, 1) := by decide +kernel
theorem dL_law_429 : decode cL_law 429 = .ok (.iload_n 3, 1) := by decide +kernel
theorem dL_law_430 : decode cL_law 430 = .ok (.iconst 4, 1) := by decide +kernel
theorem dL_law_431 : decode cL_law 431 = .ok (.iadd, 1) := by decide +kernel
theorem dL_law_432 : decode cL_law 432 = .ok (.iaload, 1) := by decide +kernel
theorem dL_law_433 : decode cL_law 433 = .ok (.aload_n 0, 1) := by decide +kernel
theorem dL_law_434 : decode cL_law 434 = .ok (.iload_n 3, 1) := by decide +kernel
theorem dL_law_435 : decode cL_law 435 = .ok (.iconst 5, 1) := by decide +kernel
theorem dL_law_436 : decode cL_law 436 = .ok (.iadd, 1) := by decide +kernel
theorem dL_law_437 : decode cL_law 437 = .ok (.iaload, 1) := by decide +kernel
theorem dL_law_438 : decode cL_law 438 = .ok (.invokevirtual 42, 3) := by decide +kernel
theorem dL_law_441 : decode cL_law 441 = .ok (.aload_n 2, 1) := by decide +kernel
theorem dL_law_442 : decode cL_law 442 = .ok (.aload_n 0, 1) := by decide +kernel
theorem dL_law_443 : decode cL_law 443 = .ok (.iload_n 3, 1) := by decide +kernel
theorem dL_law_444 : decode cL_law 444 = .ok (.iconst 1, 1) := by decide +kernel
theorem dL_law_445 : decode cL_law 445 = .ok (.iadd, 1) := by decide +kernel
theorem dL_law_446 : decode cL_law 446 = .ok (.iaload, 1) := by decide +kernel
theorem dL_law_447 : decode cL_law 447 = .ok (.aload_n 0, 1) := by decide +kernel
theorem dL_law_448 : decode cL_law 448 = .ok (.iload_n 3, 1) := by decide +kernel
theorem dL_law_449 : decode cL_law 449 = .ok (.iconst 2, 1) := by decide +kernel
theorem dL_law_450 : decode cL_law 450 = .ok (.iadd, 1) := by decide +kernel
theorem dL_law_451 : decode cL_law 451 = .ok (.iaload, 1) := by decide +kernel
theorem dL_law_452 : decode cL_law 452 = .ok (.aload_n 0, 1) := by decide +kernel
theorem dL_law_453 : decode cL_law 453 = .ok (.iload_n 3, 1) := by decide +kernel
theorem dL_law_454 : decode cL_law 454 = .ok (.iconst 3, 1) := by decide +kernel
theorem dL_law_455 : decode cL_law 455 = .ok (.iadd, 1) := by decide +kernel
theorem dL_law_456 : decode cL_law 456 = .ok (.iaload, 1) := by decide +kernel
theorem dL_law_457 : decode cL_law 457 = .ok (.aload_n 0, 1) := by decide +kernel
theorem dL_law_458 : decode cL_law 458 = .ok (.iload_n 3, 1) := by decide +kernel
theorem dL_law_459 : decode cL_law 459 = .ok (.iconst 4, 1) := by decide +kernel
theorem dL_law_460 : decode cL_law 460 = .ok (.iadd, 1) := by decide +kernel
theorem dL_law_461 : decode cL_law 461 = .ok (.iaload, 1) := by decide +kernel
theorem dL_law_462 : decode cL_law 462 = .ok (.aload_n 0, 1) := by decide +kernel
theorem dL_law_463 : decode cL_law 463 = .ok (.iload_n 3, 1) := by decide +kernel
theorem dL_law_464 : decode cL_law 464 = .ok (.iconst 5, 1) := by decide +kernel
theorem dL_law_465 : decode cL_law 465 = .ok (.iadd, 1) := by decide +kernel
theorem dL_law_466 : decode cL_law 466 = .ok (.iaload, 1) := by decide +kernel
theorem dL_law_467 : decode cL_law 467 = .ok (.invokevirtual 46, 3) := by decide +kernel
theorem dL_law_470 : decode cL_law 470 = .ok (.if_icmp .eq 909, 3) := by decide +kernel
theorem dL_law_473 : decode cL_law 473 = .ok (.iconst 0, 1) := by decide +kernel
theorem dL_law_474 : decode cL_law 474 = .ok (.ireturn, 1) := by decide +kernel
theorem dL_law_475 : decode cL_law 475 = .ok (.aload_n 1, 1) := by decide +kernel
theorem dL_law_476 : decode cL_law 476 = .ok (.aload_n 0, 1) := by decide +kernel
theorem dL_law_477 : decode cL_law 477 = .ok (.iload_n 3, 1) := by decide +kernel
theorem dL_law_478 : decode cL_law 478 = .ok (.iconst 1, 1) := by decide +kernel
theorem dL_law_479 : decode cL_law 479 = .ok (.iadd, 1) := by decide +kernel
theorem dL_law_480 : decode cL_law 480 = .ok (.iaload, 1) := by decide +kernel
theorem dL_law_481 : decode cL_law 481 = .ok (.invokevirtual 47, 3) := by decide +kernel
theorem dL_law_484 : decode cL_law 484 = .ok (.aload_n 2, 1) := by decide +kernel
theorem dL_law_485 : decode cL_law 485 = .ok (.aload_n 0, 1) := by decide +kernel
theorem dL_law_486 : decode cL_law 486 = .ok (.iload_n 3, 1) := by decide +kernel
theorem dL_law_487 : decode cL_law 487 = .ok (.iconst 1, 1) := by decide +kernel
theorem dL_law_488 : decode cL_law 488 = .ok (.iadd, 1) := by decide +kernel
theorem dL_law_489 : decode cL_law 489 = .ok (.iaload, 1) := by decide +kernel
theorem dL_law_490 : decode cL_law 490 = .ok (.invokevirtual 50, 3) := by decide +kernel
theorem dL_law_493 : decode cL_law 493 = .ok (.if_icmp .eq 886, 3) := by decide +kernel
theorem dL_law_496 : decode cL_law 496 = .ok (.iconst 0, 1) := by decide +kernel
theorem dL_law_497 : decode cL_law 497 = .ok (.ireturn, 1) := by decide +kernel
theorem dL_law_498 : decode cL_law 498 = .ok (.aload_n 1, 1) := by decide +kernel
theorem dL_law_499 : decode cL_law 499 = .ok (.aload_n 0, 1) := by decide +kernel
theorem dL_law_500 : decode cL_law 500 = .ok (.iload_n 3, 1) := by decide +kernel
theorem dL_law_501 : decode cL_law 501 = .ok (.iconst 1, 1) := by decide +kernel
theorem dL_law_502 : decode cL_law 502 = .ok (.iadd, 1) := by decide +kernel
theorem dL_law_503 : decode cL_law 503 = .ok (.iaload, 1) := by decide +kernel
theorem dL_law_504 : decode cL_law 504 = .ok (.aload_n 0, 1) := by decide +kernel
theorem dL_law_505 : decode cL_law 505 = .ok (.iload_n 3, 1) := by decide +kernel
theorem dL_law_506 : decode cL_law 506 = .ok (.iconst 2, 1) := by decide +kernel
theorem dL_law_507 : decode cL_law 507 = .ok (.iadd, 1) := by decide +kernel
theorem dL_law_508 : decode cL_law 508 = .ok (.iaload, 1) := by decide +kernel
theorem dL_law_509 : decode cL_law 509 = .ok (.ifCond .eq 7, 3) := by decide +kernel
theorem dL_law_512 : decode cL_law 512 = .ok (.iconst 1, 1) := by decide +kernel
theorem dL_law_513 : decode cL_law 513 = .ok (.goto 4, 3) := by decide +kernel
theorem dL_law_516 : decode cL_law 516 = .ok (.iconst 0, 1) := by decide +kernel
theorem dL_law_517 : decode cL_law 517 = .ok (.invokevirtual 51, 3) := by decide +kernel
theorem dL_law_520 : decode cL_law 520 = .ok (.aload_n 2, 1) := by decide +kernel
theorem dL_law_521 : decode cL_law 521 = .ok (.aload_n 0, 1) := by decide +kernel
theorem dL_law_522 : decode cL_law 522 = .ok (.iload_n 3, 1) := by decide +kernel
theorem dL_law_523 : decode cL_law 523 = .ok (.iconst 1, 1) := by decide +kernel
theorem dL_law_524 : decode cL_law 524 = .ok (.iadd, 1) := by decide +kernel
theorem dL_law_525 : decode cL_law 525 = .ok (.iaload, 1) := by decide +kernel
theorem dL_law_526 : decode cL_law 526 = .ok (.aload_n 0, 1) := by decide +kernel
theorem dL_law_527 : decode cL_law 527 = .ok (.iload_n 3, 1) := by decide +kernel
theorem dL_law_528 : decode cL_law 528 = .ok (.iconst 2, 1) := by decide +kernel
theorem dL_law_529 : decode cL_law 529 = .ok (.iadd, 1) := by decide +kernel
theorem dL_law_530 : decode cL_law 530 = .ok (.iaload, 1) := by decide +kernel
theorem dL_law_531 : decode cL_law 531 = .ok (.ifCond .eq 7, 3) := by decide +kernel
theorem dL_law_534 : decode cL_law 534 = .ok (.iconst 1, 1) := by decide +kernel
theorem dL_law_535 : decode cL_law 535 = .ok (.goto 4, 3) := by decide +kernel
theorem dL_law_538 : decode cL_law 538 = .ok (.iconst 0, 1) := by decide +kernel
theorem dL_law_539 : decode cL_law 539 = .ok (.invokevirtual 55, 3) := by decide +kernel
theorem dL_law_542 : decode cL_law 542 = .ok (.if_icmp .eq 837, 3) := by decide +kernel
theorem dL_law_545 : decode cL_law 545 = .ok (.iconst 0, 1) := by decide +kernel
theorem dL_law_546 : decode cL_law 546 = .ok (.ireturn, 1) := by decide +kernel
theorem dL_law_547 : decode cL_law 547 = .ok (.aload_n 1, 1) := by decide +kernel
theorem dL_law_548 : decode cL_law 548 = .ok (.aload_n 0, 1) := by decide +kernel
theorem dL_law_549 : decode cL_law 549 = .ok (.iload_n 3, 1) := by decide +kernel
theorem dL_law_550 : decode cL_law 550 = .ok (.iconst 1, 1) := by decide +kernel
theorem dL_law_551 : decode cL_law 551 = .ok (.iadd, 1) := by decide +kernel
theorem dL_law_552 : decode cL_law 552 = .ok (.iaload, 1) := by decide +kernel
theorem dL_law_553 : decode cL_law 553 = .ok (.aload_n 0, 1) := by decide +kernel
theorem dL_law_554 : decode cL_law 554 = .ok (.iload_n 3, 1) := by decide +kernel
theorem dL_law_555 : decode cL_law 555 = .ok (.iconst 2, 1) := by decide +kernel
theorem dL_law_556 : decode cL_law 556 = .ok (.iadd, 1) := by decide +kernel
theorem dL_law_557 : decode cL_law 557 = .ok (.iaload, 1) := by decide +kernel
theorem dL_law_558 : decode cL_law 558 = .ok (.aload_n 0, 1) := by decide +kernel
theorem dL_law_559 : decode cL_law 559 = .ok (.iload_n 3, 1) := by decide +kernel
theorem dL_law_560 : decode cL_law 560 = .ok (.iconst 3, 1) := by decide +kernel
theorem dL_law_561 : decode cL_law 561 = .ok (.iadd, 1) := by decide +kernel
theorem dL_law_562 : decode cL_law 562 = .ok (.iaload, 1) := by decide +kernel
theorem dL_law_563 : decode cL_law 563 = .ok (.aload_n 0, 1) := by decide +kernel
theorem dL_law_564 : decode cL_law 564 = .ok (.iload_n 3, 1) := by decide +kernel
theorem dL_law_565 : decode cL_law 565 = .ok (.iconst 4, 1) := by decide +kernel
theorem dL_law_566 : decode cL_law 566 = .ok (.iadd, 1) := by decide +kernel
theorem dL_law_567 : decode cL_law 567 = .ok (.iaload, 1) := by decide +kernel
theorem dL_law_568 : decode cL_law 568 = .ok (.aload_n 0, 1) := by decide +kernel
theorem dL_law_569 : decode cL_law 569 = .ok (.iload_n 3, 1) := by decide +kernel
theorem dL_law_570 : decode cL_law 570 = .ok (.iconst 5, 1) := by decide +kernel
theorem dL_law_571 : decode cL_law 571 = .ok (.iadd, 1) := by decide +kernel
theorem dL_law_572 : decode cL_law 572 = .ok (.iaload, 1) := by decide +kernel
theorem dL_law_573 : decode cL_law 573 = .ok (.invokevirtual 56, 3) := by decide +kernel
theorem dL_law_576 : decode cL_law 576 = .ok (.aload_n 2, 1) := by decide +kernel
theorem dL_law_577 : decode cL_law 577 = .ok (.aload_n 0, 1) := by decide +kernel
theorem dL_law_578 : decode cL_law 578 = .ok (.iload_n 3, 1) := by decide +kernel
theorem dL_law_579 : decode cL_law 579 = .ok (.iconst 1, 1) := by decide +kernel
theorem dL_law_580 : decode cL_law 580 = .ok (.iadd, 1) := by decide +kernel
theorem dL_law_581 : decode cL_law 581 = .ok (.iaload, 1) := by decide +kernel
theorem dL_law_582 : decode cL_law 582 = .ok (.aload_n 0, 1) := by decide +kernel
theorem dL_law_583 : decode cL_law 583 = .ok (.iload_n 3, 1) := by decide +kernel
theorem dL_law_584 : decode cL_law 584 = .ok (.iconst 2, 1) := by decide +kernel
theorem dL_law_585 : decode cL_law 585 = .ok (.iadd, 1) := by decide +kernel
theorem dL_law_586 : decode cL_law 586 = .ok (.iaload, 1) := by decide +kernel
theorem dL_law_587 : decode cL_law 587 = .ok (.aload_n 0, 1) := by decide +kernel
theorem dL_law_588 : decode cL_law 588 = .ok (.iload_n 3, 1) := by decide +kernel
theorem dL_law_589 : decode cL_law 589 = .ok (.iconst 3, 1) := by decide +kernel
theorem dL_law_590 : decode cL_law 590 = .ok (.iadd, 1) := by decide +kernel
theorem dL_law_591 : decode cL_law 591 = .ok (.iaload, 1) := by decide +kernel
theorem dL_law_592 : decode cL_law 592 = .ok (.aload_n 0, 1) := by decide +kernel
theorem dL_law_593 : decode cL_law 593 = .ok (.iload_n 3, 1) := by decide +kernel
theorem dL_law_594 : decode cL_law 594 = .ok (.iconst 4, 1) := by decide +kernel
theorem dL_law_595 : decode cL_law 595 = .ok (.iadd, 1) := by decide +kernel
theorem dL_law_596 : decode cL_law 596 = .ok (.iaload, 1) := by decide +kernel
theorem dL_law_597 : decode cL_law 597 = .ok (.aload_n 0, 1) := by decide +kernel
theorem dL_law_598 : decode cL_law 598 = .ok (.iload_n 3, 1) := by decide +kernel
theorem dL_law_599 : decode cL_law 599 = .ok (.iconst 5, 1) := by decide +kernel
theorem dL_law_600 : decode cL_law 600 = .ok (.iadd, 1) := by decide +kernel
theorem dL_law_601 : decode cL_law 601 = .ok (.iaload, 1) := by decide +kernel
theorem dL_law_602 : decode cL_law 602 = .ok (.invokevirtual 59, 3) := by decide +kernel
theorem dL_law_605 : decode cL_law 605 = .ok (.if_icmp .eq 774, 3) := by decide +kernel
theorem dL_law_608 : decode cL_law 608 = .ok (.iconst 0, 1) := by decide +kernel
theorem dL_law_609 : decode cL_law 609 = .ok (.ireturn, 1) := by decide +kernel
theorem dL_law_610 : decode cL_law 610 = .ok (.aload_n 1, 1) := by decide +kernel
theorem dL_law_611 : decode cL_law 611 = .ok (.aload_n 0, 1) := by decide +kernel
theorem dL_law_612 : decode cL_law 612 = .ok (.iload_n 3, 1) := by decide +kernel
theorem dL_law_613 : decode cL_law 613 = .ok (.iconst 1, 1) := by decide +kernel
theorem dL_law_614 : decode cL_law 614 = .ok (.iadd, 1) := by decide +kernel
theorem dL_law_615 : decode cL_law 615 = .ok (.iaload, 1) := by decide +kernel
theorem dL_law_616 : decode cL_law 616 = .ok (.aload_n 0, 1) := by decide +kernel
theorem dL_law_617 : decode cL_law 617 = .ok (.iload_n 3, 1) := by decide +kernel
theorem dL_law_618 : decode cL_law 618 = .ok (.iconst 2, 1) := by decide +kernel
theorem dL_law_619 : decode cL_law 619 = .ok (.iadd, 1) := by decide +kernel
theorem dL_law_620 : decode cL_law 620 = .ok (.iaload, 1) := by decide +kernel
theorem dL_law_621 : decode cL_law 621 = .ok (.aload_n 0, 1) := by decide +kernel
theorem dL_law_622 : decode cL_law 622 = .ok (.iload_n 3, 1) := by decide +kernel
theorem dL_law_623 : decode cL_law 623 = .ok (.iconst 3, 1) := by decide +kernel
theorem dL_law_624 : decode cL_law 624 = .ok (.iadd, 1) := by decide +kernel
theorem dL_law_625 : decode cL_law 625 = .ok (.iaload, 1) := by decide +kernel
theorem dL_law_626 : decode cL_law 626 = .ok (.aload_n 0, 1) := by decide +kernel
theorem dL_law_627 : decode cL_law 627 = .ok (.iload_n 3, 1) := by decide +kernel
theorem dL_law_628 : decode cL_law 628 = .ok (.iconst 4, 1) := by decide +kernel
theorem dL_law_629 : decode cL_law 629 = .ok (.iadd, 1) := by decide +kernel
theorem dL_law_630 : decode cL_law 630 = .ok (.iaload, 1) := by decide +kernel
theorem dL_law_631 : decode cL_law 631 = .ok (.invokevirtual 60, 3) := by decide +kernel
theorem dL_law_634 : decode cL_law 634 = .ok (.aload_n 2, 1) := by decide +kernel
theorem dL_law_635 : decode cL_law 635 = .ok (.aload_n 0, 1) := by decide +kernel
theorem dL_law_636 : decode cL_law 636 = .ok (.iload_n 3, 1) := by decide +kernel
theorem dL_law_637 : decode cL_law 637 = .ok (.iconst 1, 1) := by decide +kernel
theorem dL_law_638 : decode cL_law 638 = .ok (.iadd, 1) := by decide +kernel
theorem dL_law_639 : decode cL_law 639 = .ok (.iaload, 1) := by decide +kernel
theorem dL_law_640 : decode cL_law 640 = .ok (.aload_n 0, 1) := by decide +kernel
theorem dL_law_641 : decode cL_law 641 = .ok (.iload_n 3, 1) := by decide +kernel
theorem dL_law_642 : decode cL_law 642 = .ok (.iconst 2, 1) := by decide +kernel
theorem dL_law_643 : decode cL_law 643 = .ok (.iadd, 1) := by decide +kernel
theorem dL_law_644 : decode cL_law 644 = .ok (.iaload, 1) := by decide +kernel
theorem dL_law_645 : decode cL_law 645 = .ok (.aload_n 0, 1) := by decide +kernel
theorem dL_law_646 : decode cL_law 646 = .ok (.iload_n 3, 1) := by decide +kernel
theorem dL_law_647 : decode cL_law 647 = .ok (.iconst 3, 1) := by decide +kernel
theorem dL_law_648 : decode cL_law 648 = .ok (.iadd, 1) := by decide +kernel
theorem dL_law_649 : decode cL_law 649 = .ok (.iaload, 1) := by decide +kernel
theorem dL_law_650 : decode cL_law 650 = .ok (.aload_n 0, 1) := by decide +kernel
theorem dL_law_651 : decode cL_law 651 = .ok (.iload_n 3, 1) := by decide +kernel
theorem dL_law_652 : decode cL_law 652 = .ok (.iconst 4, 1) := by decide +kernel
theorem dL_law_653 : decode cL_law 653 = .ok (.iadd, 1) := by decide +kernel
theorem dL_law_654 : decode cL_law 654 = .ok (.iaload, 1) := by decide +kernel
theorem dL_law_655 : decode cL_law 655 = .ok (.invokevirtual 64, 3) := by decide +kernel
theorem dL_law_658 : decode cL_law 658 = .ok (.if_icmp .eq 721, 3) := by decide +kernel
theorem dL_law_661 : decode cL_law 661 = .ok (.iconst 0, 1) := by decide +kernel
theorem dL_law_662 : decode cL_law 662 = .ok (.ireturn, 1) := by decide +kernel
theorem dL_law_663 : decode cL_law 663 = .ok (.aload_n 1, 1) := by decide +kernel
theorem dL_law_664 : decode cL_law 664 = .ok (.aload_n 0, 1) := by decide +kernel
theorem dL_law_665 : decode cL_law 665 = .ok (.iload_n 3, 1) := by decide +kernel
theorem dL_law_666 : decode cL_law 666 = .ok (.iconst 1, 1) := by decide +kernel
theorem dL_law_667 : decode cL_law 667 = .ok (.iadd, 1) := by decide +kernel
theorem dL_law_668 : decode cL_law 668 = .ok (.iaload, 1) := by decide +kernel
theorem dL_law_669 : decode cL_law 669 = .ok (.aload_n 0, 1) := by decide +kernel
theorem dL_law_670 : decode cL_law 670 = .ok (.iload_n 3, 1) := by decide +kernel
theorem dL_law_671 : decode cL_law 671 = .ok (.iconst 2, 1) := by decide +kernel
theorem dL_law_672 : decode cL_law 672 = .ok (.iadd, 1) := by decide +kernel
theorem dL_law_673 : decode cL_law 673 = .ok (.iaload, 1) := by decide +kernel
theorem dL_law_674 : decode cL_law 674 = .ok (.aload_n 0, 1) := by decide +kernel
theorem dL_law_675 : decode cL_law 675 = .ok (.iload_n 3, 1) := by decide +kernel
theorem dL_law_676 : decode cL_law 676 = .ok (.iconst 3, 1) := by decide +kernel
theorem dL_law_677 : decode cL_law 677 = .ok (.iadd, 1) := by decide +kernel
theorem dL_law_678 : decode cL_law 678 = .ok (.iaload, 1) := by decide +kernel
theorem dL_law_679 : decode cL_law 679 = .ok (.aload_n 0, 1) := by decide +kernel
theorem dL_law_680 : decode cL_law 680 = .ok (.iload_n 3, 1) := by decide +kernel
theorem dL_law_681 : decode cL_law 681 = .ok (.iconst 4, 1) := by decide +kernel
theorem dL_law_682 : decode cL_law 682 = .ok (.iadd, 1) := by decide +kernel
theorem dL_law_683 : decode cL_law 683 = .ok (.iaload, 1) := by decide +kernel
theorem dL_law_684 : decode cL_law 684 = .ok (.aload_n 0, 1) := by decide +kernel
theorem dL_law_685 : decode cL_law 685 = .ok (.iload_n 3, 1) := by decide +kernel
theorem dL_law_686 : decode cL_law 686 = .ok (.iconst 5, 1) := by decide +kernel
theorem dL_law_687 : decode cL_law 687 = .ok (.iadd, 1) := by decide +kernel
theorem dL_law_688 : decode cL_law 688 = .ok (.iaload, 1) := by decide +kernel
theorem dL_law_689 : decode cL_law 689 = .ok (.ifCond .eq 7, 3) := by decide +kernel
theorem dL_law_692 : decode cL_law 692 = .ok (.iconst 1, 1) := by decide +kernel
theorem dL_law_693 : decode cL_law 693 = .ok (.goto 4, 3) := by decide +kernel
theorem dL_law_696 : decode cL_law 696 = .ok (.iconst 0, 1) := by decide +kernel
theorem dL_law_697 : decode cL_law 697 = .ok (.aload_n 0, 1) := by decide +kernel
theorem dL_law_698 : decode cL_law 698 = .ok (.iload_n 3, 1) := by decide +kernel
theorem dL_law_699 : decode cL_law 699 = .ok (.bipush 6, 2) := by decide +kernel
theorem dL_law_701 : decode cL_law 701 = .ok (.iadd, 1) := by decide +kernel
theorem dL_law_702 : decode cL_law 702 = .ok (.iaload, 1) := by decide +kernel
theorem dL_law_703 : decode cL_law 703 = .ok (.invokevirtual 65, 3) := by decide +kernel
theorem dL_law_706 : decode cL_law 706 = .ok (.aload_n 2, 1) := by decide +kernel
theorem dL_law_707 : decode cL_law 707 = .ok (.aload_n 0, 1) := by decide +kernel
theorem dL_law_708 : decode cL_law 708 = .ok (.iload_n 3, 1) := by decide +kernel
theorem dL_law_709 : decode cL_law 709 = .ok (.iconst 1, 1) := by decide +kernel
theorem dL_law_710 : decode cL_law 710 = .ok (.iadd, 1) := by decide +kernel
theorem dL_law_711 : decode cL_law 711 = .ok (.iaload, 1) := by decide +kernel
theorem dL_law_712 : decode cL_law 712 = .ok (.aload_n 0, 1) := by decide +kernel
theorem dL_law_713 : decode cL_law 713 = .ok (.iload_n 3, 1) := by decide +kernel
theorem dL_law_714 : decode cL_law 714 = .ok (.iconst 2, 1) := by decide +kernel
theorem dL_law_715 : decode cL_law 715 = .ok (.iadd, 1) := by decide +kernel
theorem dL_law_716 : decode cL_law 716 = .ok (.iaload, 1) := by decide +kernel
theorem dL_law_717 : decode cL_law 717 = .ok (.aload_n 0, 1) := by decide +kernel
theorem dL_law_718 : decode cL_law 718 = .ok (.iload_n 3, 1) := by decide +kernel
theorem dL_law_719 : decode cL_law 719 = .ok (.iconst 3, 1) := by decide +kernel
theorem dL_law_720 : decode cL_law 720 = .ok (.iadd, 1) := by decide +kernel
theorem dL_law_721 : decode cL_law 721 = .ok (.iaload, 1) := by decide +kernel
theorem dL_law_722 : decode cL_law 722 = .ok (.aload_n 0, 1) := by decide +kernel
theorem dL_law_723 : decode cL_law 723 = .ok (.iload_n 3, 1) := by decide +kernel
theorem dL_law_724 : decode cL_law 724 = .ok (.iconst 4, 1) := by decide +kernel
theorem dL_law_725 : decode cL_law 725 = .ok (.iadd, 1) := by decide +kernel
theorem dL_law_726 : decode cL_law 726 = .ok (.iaload, 1) := by decide +kernel
theorem dL_law_727 : decode cL_law 727 = .ok (.aload_n 0, 1) := by decide +kernel
theorem dL_law_728 : decode cL_law 728 = .ok (.iload_n 3, 1) := by decide +kernel
theorem dL_law_729 : decode cL_law 729 = .ok (.iconst 5, 1) := by decide +kernel
theorem dL_law_730 : decode cL_law 730 = .ok (.iadd, 1) := by decide +kernel
theorem dL_law_731 : decode cL_law 731 = .ok (.iaload, 1) := by decide +kernel
theorem dL_law_732 : decode cL_law 732 = .ok (.ifCond .eq 7, 3) := by decide +kernel
theorem dL_law_735 : decode cL_law 735 = .ok (.iconst 1, 1) := by decide +kernel
theorem dL_law_736 : decode cL_law 736 = .ok (.goto 4, 3) := by decide +kernel
theorem dL_law_739 : decode cL_law 739 = .ok (.iconst 0, 1) := by decide +kernel
theorem dL_law_740 : decode cL_law 740 = .ok (.aload_n 0, 1) := by decide +kernel
theorem dL_law_741 : decode cL_law 741 = .ok (.iload_n 3, 1) := by decide +kernel
theorem dL_law_742 : decode cL_law 742 = .ok (.bipush 6, 2) := by decide +kernel
theorem dL_law_744 : decode cL_law 744 = .ok (.iadd, 1) := by decide +kernel
theorem dL_law_745 : decode cL_law 745 = .ok (.iaload, 1) := by decide +kernel
theorem dL_law_746 : decode cL_law 746 = .ok (.invokevirtual 69, 3) := by decide +kernel
theorem dL_law_749 : decode cL_law 749 = .ok (.if_icmp .eq 630, 3) := by decide +kernel
theorem dL_law_752 : decode cL_law 752 = .ok (.iconst 0, 1) := by decide +kernel
theorem dL_law_753 : decode cL_law 753 = .ok (.ireturn, 1) := by decide +kernel
theorem dL_law_754 : decode cL_law 754 = .ok (.aload_n 1, 1) := by decide +kernel
theorem dL_law_755 : decode cL_law 755 = .ok (.aload_n 0, 1) := by decide +kernel
theorem dL_law_756 : decode cL_law 756 = .ok (.iload_n 3, 1) := by decide +kernel
theorem dL_law_757 : decode cL_law 757 = .ok (.iconst 1, 1) := by decide +kernel
theorem dL_law_758 : decode cL_law 758 = .ok (.iadd, 1) := by decide +kernel
theorem dL_law_759 : decode cL_law 759 = .ok (.iaload, 1) := by decide +kernel
theorem dL_law_760 : decode cL_law 760 = .ok (.aload_n 0, 1) := by decide +kernel
theorem dL_law_761 : decode cL_law 761 = .ok (.iload_n 3, 1) := by decide +kernel
theorem dL_law_762 : decode cL_law 762 = .ok (.iconst 2, 1) := by decide +kernel
theorem dL_law_763 : decode cL_law 763 = .ok (.iadd, 1) := by decide +kernel
theorem dL_law_764 : decode cL_law 764 = .ok (.iaload, 1) := by decide +kernel
theorem dL_law_765 : decode cL_law 765 = .ok (.ifCond .eq 7, 3) := by decide +kernel
theorem dL_law_768 : decode cL_law 768 = .ok (.iconst 1, 1) := by decide +kernel
theorem dL_law_769 : decode cL_law 769 = .ok (.goto 4, 3) := by decide +kernel
theorem dL_law_772 : decode cL_law 772 = .ok (.iconst 0, 1) := by decide +kernel
theorem dL_law_773 : decode cL_law 773 = .ok (.invokevirtual 70, 3) := by decide +kernel
theorem dL_law_776 : decode cL_law 776 = .ok (.aload_n 2, 1) := by decide +kernel
theorem dL_law_777 : decode cL_law 777 = .ok (.aload_n 0, 1) := by decide +kernel
theorem dL_law_778 : decode cL_law 778 = .ok (.iload_n 3, 1) := by decide +kernel
theorem dL_law_779 : decode cL_law 779 = .ok (.iconst 1, 1) := by decide +kernel
theorem dL_law_780 : decode cL_law 780 = .ok (.iadd, 1) := by decide +kernel
theorem dL_law_781 : decode cL_law 781 = .ok (.iaload, 1) := by decide +kernel
theorem dL_law_782 : decode cL_law 782 = .ok (.aload_n 0, 1) := by decide +kernel
theorem dL_law_783 : decode cL_law 783 = .ok (.iload_n 3, 1) := by decide +kernel
theorem dL_law_784 : decode cL_law 784 = .ok (.iconst 2, 1) := by decide +kernel
theorem dL_law_785 : decode cL_law 785 = .ok (.iadd, 1) := by decide +kernel
theorem dL_law_786 : decode cL_law 786 = .ok (.iaload, 1) := by decide +kernel
theorem dL_law_787 : decode cL_law 787 = .ok (.ifCond .eq 7, 3) := by decide +kernel
theorem dL_law_790 : decode cL_law 790 = .ok (.iconst 1, 1) := by decide +kernel
theorem dL_law_791 : decode cL_law 791 = .ok (.goto 4, 3) := by decide +kernel
theorem dL_law_794 : decode cL_law 794 = .ok (.iconst 0, 1) := by decide +kernel
theorem dL_law_795 : decode cL_law 795 = .ok (.invokevirtual 74, 3) := by decide +kernel
theorem dL_law_798 : decode cL_law 798 = .ok (.if_icmp .eq 581, 3) := by decide +kernel
theorem dL_law_801 : decode cL_law 801 = .ok (.iconst 0, 1) := by decide +kernel
theorem dL_law_802 : decode cL_law 802 = .ok (.ireturn, 1) := by decide +kernel
theorem dL_law_803 : decode cL_law 803 = .ok (.aload_n 1, 1) := by decide +kernel
theorem dL_law_804 : decode cL_law 804 = .ok (.aload_n 0, 1) := by decide +kernel
theorem dL_law_805 : decode cL_law 805 = .ok (.iload_n 3, 1) := by decide +kernel
theorem dL_law_806 : decode cL_law 806 = .ok (.iconst 1, 1) := by decide +kernel
theorem dL_law_807 : decode cL_law 807 = .ok (.iadd, 1) := by decide +kernel
theorem dL_law_808 : decode cL_law 808 = .ok (.iaload, 1) := by decide +kernel
theorem dL_law_809 : decode cL_law 809 = .ok (.aload_n 0, 1) := by decide +kernel
theorem dL_law_810 : decode cL_law 810 = .ok (.iload_n 3, 1) := by decide +kernel
theorem dL_law_811 : decode cL_law 811 = .ok (.iconst 2, 1) := by decide +kernel
theorem dL_law_812 : decode cL_law 812 = .ok (.iadd, 1) := by decide +kernel
theorem dL_law_813 : decode cL_law 813 = .ok (.iaload, 1) := by decide +kernel
theorem dL_law_814 : decode cL_law 814 = .ok (.ifCond .eq 7, 3) := by decide +kernel
theorem dL_law_817 : decode cL_law 817 = .ok (.iconst 1, 1) := by decide +kernel
theorem dL_law_818 : decode cL_law 818 = .ok (.goto 4, 3) := by decide +kernel
theorem dL_law_821 : decode cL_law 821 = .ok (.iconst 0, 1) := by decide +kernel
theorem dL_law_822 : decode cL_law 822 = .ok (.aload_n 0, 1) := by decide +kernel
theorem dL_law_823 : decode cL_law 823 = .ok (.iload_n 3, 1) := by decide +kernel
theorem dL_law_824 : decode cL_law 824 = .ok (.iconst 3, 1) := by decide +kernel
theorem dL_law_825 : decode cL_law 825 = .ok (.iadd, 1) := by decide +kernel
theorem dL_law_826 : decode cL_law 826 = .ok (.iaload, 1) := by decide +kernel
theorem dL_law_827 : decode cL_law 827 = .ok (.ifCond .eq 7, 3) := by decide +kernel
theorem dL_law_830 : decode cL_law 830 = .ok (.iconst 1, 1) := by decide +kernel
theorem dL_law_831 : decode cL_law 831 = .ok (.goto 4, 3) := by decide +kernel
theorem dL_law_834 : decode cL_law 834 = .ok (.iconst 0, 1) := by decide +kernel
theorem dL_law_835 : decode cL_law 835 = .ok (.aload_n 0, 1) := by decide +kernel
theorem dL_law_836 : decode cL_law 836 = .ok (.iload_n 3, 1) := by decide +kernel
theorem dL_law_837 : decode cL_law 837 = .ok (.iconst 4, 1) := by decide +kernel
theorem dL_law_838 : decode cL_law 838 = .ok (.iadd, 1) := by decide +kernel
theorem dL_law_839 : decode cL_law 839 = .ok (.iaload, 1) := by decide +kernel
theorem dL_law_840 : decode cL_law 840 = .ok (.invokevirtual 75, 3) := by decide +kernel
theorem dL_law_843 : decode cL_law 843 = .ok (.aload_n 2, 1) := by decide +kernel
theorem dL_law_844 : decode cL_law 844 = .ok (.aload_n 0, 1) := by decide +kernel
theorem dL_law_845 : decode cL_law 845 = .ok (.iload_n 3, 1) := by decide +kernel
theorem dL_law_846 : decode cL_law 846 = .ok (.iconst 1, 1) := by decide +kernel
theorem dL_law_847 : decode cL_law 847 = .ok (.iadd, 1) := by decide +kernel
theorem dL_law_848 : decode cL_law 848 = .ok (.iaload, 1) := by decide +kernel
theorem dL_law_849 : decode cL_law 849 = .ok (.aload_n 0, 1) := by decide +kernel
theorem dL_law_850 : decode cL_law 850 = .ok (.iload_n 3, 1) := by decide +kernel
theorem dL_law_851 : decode cL_law 851 = .ok (.iconst 2, 1) := by decide +kernel
theorem dL_law_852 : decode cL_law 852 = .ok (.iadd, 1) := by decide +kernel
theorem dL_law_853 : decode cL_law 853 = .ok (.iaload, 1) := by decide +kernel
theorem dL_law_854 : decode cL_law 854 = .ok (.ifCond .eq 7, 3) := by decide +kernel
theorem dL_law_857 : decode cL_law 857 = .ok (.iconst 1, 1) := by decide +kernel
theorem dL_law_858 : decode cL_law 858 = .ok (.goto 4, 3) := by decide +kernel
theorem dL_law_861 : decode cL_law 861 = .ok (.iconst 0, 1) := by decide +kernel
theorem dL_law_862 : decode cL_law 862 = .ok (.aload_n 0, 1) := by decide +kernel
theorem dL_law_863 : decode cL_law 863 = .ok (.iload_n 3, 1) := by decide +kernel
theorem dL_law_864 : decode cL_law 864 = .ok (.iconst 3, 1) := by decide +kernel
theorem dL_law_865 : decode cL_law 865 = .ok (.iadd, 1) := by decide +kernel
theorem dL_law_866 : decode cL_law 866 = .ok (.iaload, 1) := by decide +kernel
theorem dL_law_867 : decode cL_law 867 = .ok (.ifCond .eq 7, 3) := by decide +kernel
theorem dL_law_870 : decode cL_law 870 = .ok (.iconst 1, 1) := by decide +kernel
theorem dL_law_871 : decode cL_law 871 = .ok (.goto 4, 3) := by decide +kernel
theorem dL_law_874 : decode cL_law 874 = .ok (.iconst 0, 1) := by decide +kernel
theorem dL_law_875 : decode cL_law 875 = .ok (.aload_n 0, 1) := by decide +kernel
theorem dL_law_876 : decode cL_law 876 = .ok (.iload_n 3, 1) := by decide +kernel
theorem dL_law_877 : decode cL_law 877 = .ok (.iconst 4, 1) := by decide +kernel
theorem dL_law_878 : decode cL_law 878 = .ok (.iadd, 1) := by decide +kernel
theorem dL_law_879 : decode cL_law 879 = .ok (.iaload, 1) := by decide +kernel
theorem dL_law_880 : decode cL_law 880 = .ok (.invokevirtual 79, 3) := by decide +kernel
theorem dL_law_883 : decode cL_law 883 = .ok (.if_icmp .eq 496, 3) := by decide +kernel
theorem dL_law_886 : decode cL_law 886 = .ok (.iconst 0, 1) := by decide +kernel
theorem dL_law_887 : decode cL_law 887 = .ok (.ireturn, 1) := by decide +kernel
theorem dL_law_888 : decode cL_law 888 = .ok (.aload_n 1, 1) := by decide +kernel
theorem dL_law_889 : decode cL_law 889 = .ok (.aload_n 0, 1) := by decide +kernel
theorem dL_law_890 : decode cL_law 890 = .ok (.iload_n 3, 1) := by decide +kernel
theorem dL_law_891 : decode cL_law 891 = .ok (.iconst 1, 1) := by decide +kernel
theorem dL_law_892 : decode cL_law 892 = .ok (.iadd, 1) := by decide +kernel
theorem dL_law_893 : decode cL_law 893 = .ok (.iaload, 1) := by decide +kernel
theorem dL_law_894 : decode cL_law 894 = .ok (.aload_n 0, 1) := by decide +kernel
theorem dL_law_895 : decode cL_law 895 = .ok (.iload_n 3, 1) := by decide +kernel
theorem dL_law_896 : decode cL_law 896 = .ok (.iconst 2, 1) := by decide +kernel
theorem dL_law_897 : decode cL_law 897 = .ok (.iadd, 1) := by decide +kernel
theorem dL_law_898 : decode cL_law 898 = .ok (.iaload, 1) := by decide +kernel
theorem dL_law_899 : decode cL_law 899 = .ok (.invokevirtual 80, 3) := by decide +kernel
theorem dL_law_902 : decode cL_law 902 = .ok (.aload_n 2, 1) := by decide +kernel
theorem dL_law_903 : decode cL_law 903 = .ok (.aload_n 0, 1) := by decide +kernel
theorem dL_law_904 : decode cL_law 904 = .ok (.iload_n 3, 1) := by decide +kernel
theorem dL_law_905 : decode cL_law 905 = .ok (.iconst 1, 1) := by decide +kernel
theorem dL_law_906 : decode cL_law 906 = .ok (.iadd, 1) := by decide +kernel
theorem dL_law_907 : decode cL_law 907 = .ok (.iaload, 1) := by decide +kernel
theorem dL_law_908 : decode cL_law 908 = .ok (.aload_n 0, 1) := by decide +kernel
theorem dL_law_909 : decode cL_law 909 = .ok (.iload_n 3, 1) := by decide +kernel
theorem dL_law_910 : decode cL_law 910 = .ok (.iconst 2, 1) := by decide +kernel
theorem dL_law_911 : decode cL_law 911 = .ok (.iadd, 1) := by decide +kernel
theorem dL_law_912 : decode cL_law 912 = .ok (.iaload, 1) := by decide +kernel
theorem dL_law_913 : decode cL_law 913 = .ok (.invokevirtual 83, 3) := by decide +kernel
theorem dL_law_916 : decode cL_law 916 = .ok (.if_icmp .eq 463, 3) := by decide +kernel
theorem dL_law_919 : decode cL_law 919 = .ok (.iconst 0, 1) := by decide +kernel
theorem dL_law_920 : decode cL_law 920 = .ok (.ireturn, 1) := by decide +kernel
theorem dL_law_921 : decode cL_law 921 = .ok (.aload_n 1, 1) := by decide +kernel
theorem dL_law_922 : decode cL_law 922 = .ok (.aload_n 0, 1) := by decide +kernel
theorem dL_law_923 : decode cL_law 923 = .ok (.iload_n 3, 1) := by decide +kernel
theorem dL_law_924 : decode cL_law 924 = .ok (.iconst 1, 1) := by decide +kernel
theorem dL_law_925 : decode cL_law 925 = .ok (.iadd, 1) := by decide +kernel
theorem dL_law_926 : decode cL_law 926 = .ok (.iaload, 1) := by decide +kernel
theorem dL_law_927 : decode cL_law 927 = .ok (.aload_n 0, 1) := by decide +kernel
theorem dL_law_928 : decode cL_law 928 = .ok (.iload_n 3, 1) := by decide +kernel
theorem dL_law_929 : decode cL_law 929 = .ok (.iconst 2, 1) := by decide +kernel
theorem dL_law_930 : decode cL_law 930 = .ok (.iadd, 1) := by decide +kernel
theorem dL_law_931 : decode cL_law 931 = .ok (.iaload, 1) := by decide +kernel
theorem dL_law_932 : decode cL_law 932 = .ok (.aload_n 0, 1) := by decide +kernel
theorem dL_law_933 : decode cL_law 933 = .ok (.iload_n 3, 1) := by decide +kernel
theorem dL_law_934 : decode cL_law 934 = .ok (.iconst 3, 1) := by decide +kernel
theorem dL_law_935 : decode cL_law 935 = .ok (.iadd, 1) := by decide +kernel
theorem dL_law_936 : decode cL_law 936 = .ok (.iaload, 1) := by decide +kernel
theorem dL_law_937 : decode cL_law 937 = .ok (.invokevirtual 84, 3) := by decide +kernel
theorem dL_law_940 : decode cL_law 940 = .ok (.aload_n 2, 1) := by decide +kernel
theorem dL_law_941 : decode cL_law 941 = .ok (.aload_n 0, 1) := by decide +kernel
theorem dL_law_942 : decode cL_law 942 = .ok (.iload_n 3, 1) := by decide +kernel
theorem dL_law_943 : decode cL_law 943 = .ok (.iconst 1, 1) := by decide +kernel
theorem dL_law_944 : decode cL_law 944 = .ok (.iadd, 1) := by decide +kernel
theorem dL_law_945 : decode cL_law 945 = .ok (.iaload, 1) := by decide +kernel
theorem dL_law_946 : decode cL_law 946 = .ok (.aload_n 0, 1) := by decide +kernel
theorem dL_law_947 : decode cL_law 947 = .ok (.iload_n 3, 1) := by decide +kernel
theorem dL_law_948 : decode cL_law 948 = .ok (.iconst 2, 1) := by decide +kernel
theorem dL_law_949 : decode cL_law 949 = .ok (.iadd, 1) := by decide +kernel
theorem dL_law_950 : decode cL_law 950 = .ok (.iaload, 1) := by decide +kernel
theorem dL_law_951 : decode cL_law 951 = .ok (.aload_n 0, 1) := by decide +kernel
theorem dL_law_952 : decode cL_law 952 = .ok (.iload_n 3, 1) := by decide +kernel
theorem dL_law_953 : decode cL_law 953 = .ok (.iconst 3, 1) := by decide +kernel
theorem dL_law_954 : decode cL_law 954 = .ok (.iadd, 1) := by decide +kernel
theorem dL_law_955 : decode cL_law 955 = .ok (.iaload, 1) := by decide +kernel
theorem dL_law_956 : decode cL_law 956 = .ok (.invokevirtual 88, 3) := by decide +kernel
theorem dL_law_959 : decode cL_law 959 = .ok (.if_icmp .eq 420, 3) := by decide +kernel
theorem dL_law_962 : decode cL_law 962 = .ok (.iconst 0, 1) := by decide +kernel
theorem dL_law_963 : decode cL_law 963 = .ok (.ireturn, 1) := by decide +kernel
theorem dL_law_964 : decode cL_law 964 = .ok (.aload_n 1, 1) := by decide +kernel
theorem dL_law_965 : decode cL_law 965 = .ok (.aload_n 0, 1) := by decide +kernel
theorem dL_law_966 : decode cL_law 966 = .ok (.iload_n 3, 1) := by decide +kernel
theorem dL_law_967 : decode cL_law 967 = .ok (.iconst 1, 1) := by decide +kernel
theorem dL_law_968 : decode cL_law 968 = .ok (.iadd, 1) := by decide +kernel
theorem dL_law_969 : decode cL_law 969 = .ok (.iaload, 1) := by decide +kernel
theorem dL_law_970 : decode cL_law 970 = .ok (.invokevirtual 89, 3) := by decide +kernel
theorem dL_law_973 : decode cL_law 973 = .ok (.aload_n 2, 1) := by decide +kernel
theorem dL_law_974 : decode cL_law 974 = .ok (.aload_n 0, 1) := by decide +kernel
theorem dL_law_975 : decode cL_law 975 = .ok (.iload_n 3, 1) := by decide +kernel
theorem dL_law_976 : decode cL_law 976 = .ok (.iconst 1, 1) := by decide +kernel
theorem dL_law_977 : decode cL_law 977 = .ok (.iadd, 1) := by decide +kernel
theorem dL_law_978 : decode cL_law 978 = .ok (.iaload, 1) := by decide +kernel
theorem dL_law_979 : decode cL_law 979 = .ok (.invokevirtual 92, 3) := by decide +kernel
theorem dL_law_982 : decode cL_law 982 = .ok (.if_icmp .eq 397, 3) := by decide +kernel
theorem dL_law_985 : decode cL_law 985 = .ok (.iconst 0, 1) := by decide +kernel
theorem dL_law_986 : decode cL_law 986 = .ok (.ireturn, 1) := by decide +kernel
theorem dL_law_987 : decode cL_law 987 = .ok (.aload_n 1, 1) := by decide +kernel
theorem dL_law_988 : decode cL_law 988 = .ok (.aload_n 0, 1) := by decide +kernel
theorem dL_law_989 : decode cL_law 989 = .ok (.iload_n 3, 1) := by decide +kernel
theorem dL_law_990 : decode cL_law 990 = .ok (.iconst 1, 1) := by decide +kernel
theorem dL_law_991 : decode cL_law 991 = .ok (.iadd, 1) := by decide +kernel
theorem dL_law_992 : decode cL_law 992 = .ok (.iaload, 1) := by decide +kernel
theorem dL_law_993 : decode cL_law 993 = .ok (.aload_n 0, 1) := by decide +kernel
theorem dL_law_994 : decode cL_law 994 = .ok (.iload_n 3, 1) := by decide +kernel
theorem dL_law_995 : decode cL_law 995 = .ok (.iconst 2, 1) := by decide +kernel
theorem dL_law_996 : decode cL_law 996 = .ok (.iadd, 1) := by decide +kernel
theorem dL_law_997 : decode cL_law 997 = .ok (.iaload, 1) := by decide +kernel
theorem dL_law_998 : decode cL_law 998 = .ok (.invokevirtual 93, 3) := by decide +kernel
theorem dL_law_1001 : decode cL_law 1001 = .ok (.aload_n 2, 1) := by decide +kernel
theorem dL_law_1002 : decode cL_law 1002 = .ok (.aload_n 0, 1) := by decide +kernel
theorem dL_law_1003 : decode cL_law 1003 = .ok (.iload_n 3, 1) := by decide +kernel
theorem dL_law_1004 : decode cL_law 1004 = .ok (.iconst 1, 1) := by decide +kernel
theorem dL_law_1005 : decode cL_law 1005 = .ok (.iadd, 1) := by decide +kernel
theorem dL_law_1006 : decode cL_law 1006 = .ok (.iaload, 1) := by decide +kernel
theorem dL_law_1007 : decode cL_law 1007 = .ok (.aload_n 0, 1) := by decide +kernel
theorem dL_law_1008 : decode cL_law 1008 = .ok (.iload_n 3, 1) := by decide +kernel
theorem dL_law_1009 : decode cL_law 1009 = .ok (.iconst 2, 1) := by decide +kernel
theorem dL_law_1010 : decode cL_law 1010 = .ok (.iadd, 1) := by decide +kernel
theorem dL_law_1011 : decode cL_law 1011 = .ok (.iaload, 1) := by decide +kernel
theorem dL_law_1012 : decode cL_law 1012 = .ok (.invokevirtual 96, 3) := by decide +kernel
theorem dL_law_1015 : decode cL_law 1015 = .ok (.if_icmp .eq 364, 3) := by decide +kernel
theorem dL_law_1018 : decode cL_law 1018 = .ok (.iconst 0, 1) := by decide +kernel
theorem dL_law_1019 : decode cL_law 1019 = .ok (.ireturn, 1) := by decide +kernel
theorem dL_law_1020 : decode cL_law 1020 = .ok (.aload_n 1, 1) := by decide +kernel
theorem dL_law_1021 : decode cL_law 1021 = .ok (.aload_n 0, 1) := by decide +kernel
theorem dL_law_1022 : decode cL_law 1022 = .ok (.iload_n 3, 1) := by decide +kernel
theorem dL_law_1023 : decode cL_law 1023 = .ok (.iconst 1, 1) := by decide +kernel
theorem dL_law_1024 : decode cL_law 1024 = .ok (.iadd, 1) := by decide +kernel
theorem dL_law_1025 : decode cL_law 1025 = .ok (.iaload, 1) := by decide +kernel
theorem dL_law_1026 : decode cL_law 1026 = .ok (.invokevirtual 97, 3) := by decide +kernel
theorem dL_law_1029 : decode cL_law 1029 = .ok (.aload_n 2, 1) := by decide +kernel
theorem dL_law_1030 : decode cL_law 1030 = .ok (.aload_n 0, 1) := by decide +kernel
theorem dL_law_1031 : decode cL_law 1031 = .ok (.iload_n 3, 1) := by decide +kernel
theorem dL_law_1032 : decode cL_law 1032 = .ok (.iconst 1, 1) := by decide +kernel
theorem dL_law_1033 : decode cL_law 1033 = .ok (.iadd, 1) := by decide +kernel
theorem dL_law_1034 : decode cL_law 1034 = .ok (.iaload, 1) := by decide +kernel
theorem dL_law_1035 : decode cL_law 1035 = .ok (.invokevirtual 100, 3) := by decide +kernel
theorem dL_law_1038 : decode cL_law 1038 = .ok (.if_icmp .eq 341, 3) := by decide +kernel
theorem dL_law_1041 : decode cL_law 1041 = .ok (.iconst 0, 1) := by decide +kernel
theorem dL_law_1042 : decode cL_law 1042 = .ok (.ireturn, 1) := by decide +kernel
theorem dL_law_1043 : decode cL_law 1043 = .ok (.aload_n 1, 1) := by decide +kernel
theorem dL_law_1044 : decode cL_law 1044 = .ok (.aload_n 0, 1) := by decide +kernel
theorem dL_law_1045 : decode cL_law 1045 = .ok (.iload_n 3, 1) := by decide +kernel
theorem dL_law_1046 : decode cL_law 1046 = .ok (.iconst 1, 1) := by decide +kernel
theorem dL_law_1047 : decode cL_law 1047 = .ok (.iadd, 1) := by decide +kernel
theorem dL_law_1048 : decode cL_law 1048 = .ok (.iaload, 1) := by decide +kernel
theorem dL_law_1049 : decode cL_law 1049 = .ok (.aload_n 0, 1) := by decide +kernel
theorem dL_law_1050 : decode cL_law 1050 = .ok (.iload_n 3, 1) := by decide +kernel
theorem dL_law_1051 : decode cL_law 1051 = .ok (.iconst 2, 1) := by decide +kernel
theorem dL_law_1052 : decode cL_law 1052 = .ok (.iadd, 1) := by decide +kernel
theorem dL_law_1053 : decode cL_law 1053 = .ok (.iaload, 1) := by decide +kernel
theorem dL_law_1054 : decode cL_law 1054 = .ok (.invokevirtual 101, 3) := by decide +kernel
theorem dL_law_1057 : decode cL_law 1057 = .ok (.aload_n 2, 1) := by decide +kernel
theorem dL_law_1058 : decode cL_law 1058 = .ok (.aload_n 0, 1) := by decide +kernel
theorem dL_law_1059 : decode cL_law 1059 = .ok (.iload_n 3, 1) := by decide +kernel
theorem dL_law_1060 : decode cL_law 1060 = .ok (.iconst 1, 1) := by decide +kernel
theorem dL_law_1061 : decode cL_law 1061 = .ok (.iadd, 1) := by decide +kernel
theorem dL_law_1062 : decode cL_law 1062 = .ok (.iaload, 1) := by decide +kernel
theorem dL_law_1063 : decode cL_law 1063 = .ok (.aload_n 0, 1) := by decide +kernel
theorem dL_law_1064 : decode cL_law 1064 = .ok (.iload_n 3, 1) := by decide +kernel
theorem dL_law_1065 : decode cL_law 1065 = .ok (.iconst 2, 1) := by decide +kernel
theorem dL_law_1066 : decode cL_law 1066 = .ok (.iadd, 1) := by decide +kernel
theorem dL_law_1067 : decode cL_law 1067 = .ok (.iaload, 1) := by decide +kernel
theorem dL_law_1068 : decode cL_law 1068 = .ok (.invokevirtual 104, 3) := by decide +kernel
theorem dL_law_1071 : decode cL_law 1071 = .ok (.if_icmp .eq 308, 3) := by decide +kernel
theorem dL_law_1074 : decode cL_law 1074 = .ok (.iconst 0, 1) := by decide +kernel
theorem dL_law_1075 : decode cL_law 1075 = .ok (.ireturn, 1) := by decide +kernel
theorem dL_law_1076 : decode cL_law 1076 = .ok (.aload_n 1, 1) := by decide +kernel
theorem dL_law_1077 : decode cL_law 1077 = .ok (.aload_n 0, 1) := by decide +kernel
theorem dL_law_1078 : decode cL_law 1078 = .ok (.iload_n 3, 1) := by decide +kernel
theorem dL_law_1079 : decode cL_law 1079 = .ok (.iconst 1, 1) := by decide +kernel
theorem dL_law_1080 : decode cL_law 1080 = .ok (.iadd, 1) := by decide +kernel
theorem dL_law_1081 : decode cL_law 1081 = .ok (.iaload, 1) := by decide +kernel
theorem dL_law_1082 : decode cL_law 1082 = .ok (.aload_n 0, 1) := by decide +kernel
theorem dL_law_1083 : decode cL_law 1083 = .ok (.iload_n 3, 1) := by decide +kernel
theorem dL_law_1084 : decode cL_law 1084 = .ok (.iconst 2, 1) := by decide +kernel
theorem dL_law_1085 : decode cL_law 1085 = .ok (.iadd, 1) := by decide +kernel
theorem dL_law_1086 : decode cL_law 1086 = .ok (.iaload, 1) := by decide +kernel
theorem dL_law_1087 : decode cL_law 1087 = .ok (.aload_n 0, 1) := by decide +kernel
theorem dL_law_1088 : decode cL_law 1088 = .ok (.iload_n 3, 1) := by decide +kernel
theorem dL_law_1089 : decode cL_law 1089 = .ok (.iconst 3, 1) := by decide +kernel
theorem dL_law_1090 : decode cL_law 1090 = .ok (.iadd, 1) := by decide +kernel
theorem dL_law_1091 : decode cL_law 1091 = .ok (.iaload, 1) := by decide +kernel
theorem dL_law_1092 : decode cL_law 1092 = .ok (.aload_n 0, 1) := by decide +kernel
theorem dL_law_1093 : decode cL_law 1093 = .ok (.iload_n 3, 1) := by decide +kernel
theorem dL_law_1094 : decode cL_law 1094 = .ok (.iconst 4, 1) := by decide +kernel
theorem dL_law_1095 : decode cL_law 1095 = .ok (.iadd, 1) := by decide +kernel
theorem dL_law_1096 : decode cL_law 1096 = .ok (.iaload, 1) := by decide +kernel
theorem dL_law_1097 : decode cL_law 1097 = .ok (.invokevirtual 105, 3) := by decide +kernel
theorem dL_law_1100 : decode cL_law 1100 = .ok (.aload_n 2, 1) := by decide +kernel
theorem dL_law_1101 : decode cL_law 1101 = .ok (.aload_n 0, 1) := by decide +kernel
theorem dL_law_1102 : decode cL_law 1102 = .ok (.iload_n 3, 1) := by decide +kernel
theorem dL_law_1103 : decode cL_law 1103 = .ok (.iconst 1, 1) := by decide +kernel
theorem dL_law_1104 : decode cL_law 1104 = .ok (.iadd, 1) := by decide +kernel
theorem dL_law_1105 : decode cL_law 1105 = .ok (.iaload, 1) := by decide +kernel
theorem dL_law_1106 : decode cL_law 1106 = .ok (.aload_n 0, 1) := by decide +kernel
theorem dL_law_1107 : decode cL_law 1107 = .ok (.iload_n 3, 1) := by decide +kernel
theorem dL_law_1108 : decode cL_law 1108 = .ok (.iconst 2, 1) := by decide +kernel
theorem dL_law_1109 : decode cL_law 1109 = .ok (.iadd, 1) := by decide +kernel
theorem dL_law_1110 : decode cL_law 1110 = .ok (.iaload, 1) := by decide +kernel
theorem dL_law_1111 : decode cL_law 1111 = .ok (.aload_n 0, 1) := by decide +kernel
theorem dL_law_1112 : decode cL_law 1112 = .ok (.iload_n 3, 1) := by decide +kernel
theorem dL_law_1113 : decode cL_law 1113 = .ok (.iconst 3, 1) := by decide +kernel
theorem dL_law_1114 : decode cL_law 1114 = .ok (.iadd, 1) := by decide +kernel
theorem dL_law_1115 : decode cL_law 1115 = .ok (.iaload, 1) := by decide +kernel
theorem dL_law_1116 : decode cL_law 1116 = .ok (.aload_n 0, 1) := by decide +kernel
theorem dL_law_1117 : decode cL_law 1117 = .ok (.iload_n 3, 1) := by decide +kernel
theorem dL_law_1118 : decode cL_law 1118 = .ok (.iconst 4, 1) := by decide +kernel
theorem dL_law_1119 : decode cL_law 1119 = .ok (.iadd, 1) := by decide +kernel
theorem dL_law_1120 : decode cL_law 1120 = .ok (.iaload, 1) := by decide +kernel
theorem dL_law_1121 : decode cL_law 1121 = .ok (.invokevirtual 108, 3) := by decide +kernel
theorem dL_law_1124 : decode cL_law 1124 = .ok (.if_icmp .eq 255, 3) := by decide +kernel
theorem dL_law_1127 : decode cL_law 1127 = .ok (.iconst 0, 1) := by decide +kernel
theorem dL_law_1128 : decode cL_law 1128 = .ok (.ireturn, 1) := by decide +kernel
theorem dL_law_1129 : decode cL_law 1129 = .ok (.aload_n 1, 1) := by decide +kernel
theorem dL_law_1130 : decode cL_law 1130 = .ok (.aload_n 0, 1) := by decide +kernel
theorem dL_law_1131 : decode cL_law 1131 = .ok (.iload_n 3, 1) := by decide +kernel
theorem dL_law_1132 : decode cL_law 1132 = .ok (.iconst 1, 1) := by decide +kernel
theorem dL_law_1133 : decode cL_law 1133 = .ok (.iadd, 1) := by decide +kernel
theorem dL_law_1134 : decode cL_law 1134 = .ok (.iaload, 1) := by decide +kernel
theorem dL_law_1135 : decode cL_law 1135 = .ok (.aload_n 0, 1) := by decide +kernel
theorem dL_law_1136 : decode cL_law 1136 = .ok (.iload_n 3, 1) := by decide +kernel
theorem dL_law_1137 : decode cL_law 1137 = .ok (.iconst 2, 1) := by decide +kernel
theorem dL_law_1138 : decode cL_law 1138 = .ok (.iadd, 1) := by decide +kernel
theorem dL_law_1139 : decode cL_law 1139 = .ok (.iaload, 1) := by decide +kernel
theorem dL_law_1140 : decode cL_law 1140 = .ok (.invokevirtual 109, 3) := by decide +kernel
theorem dL_law_1143 : decode cL_law 1143 = .ok (.aload_n 2, 1) := by decide +kernel
theorem dL_law_1144 : decode cL_law 1144 = .ok (.aload_n 0, 1) := by decide +kernel
theorem dL_law_1145 : decode cL_law 1145 = .ok (.iload_n 3, 1) := by decide +kernel
theorem dL_law_1146 : decode cL_law 1146 = .ok (.iconst 1, 1) := by decide +kernel
theorem dL_law_1147 : decode cL_law 1147 = .ok (.iadd, 1) := by decide +kernel
theorem dL_law_1148 : decode cL_law 1148 = .ok (.iaload, 1) := by decide +kernel
theorem dL_law_1149 : decode cL_law 1149 = .ok (.aload_n 0, 1) := by decide +kernel
theorem dL_law_1150 : decode cL_law 1150 = .ok (.iload_n 3, 1) := by decide +kernel
theorem dL_law_1151 : decode cL_law 1151 = .ok (.iconst 2, 1) := by decide +kernel
theorem dL_law_1152 : decode cL_law 1152 = .ok (.iadd, 1) := by decide +kernel
theorem dL_law_1153 : decode cL_law 1153 = .ok (.iaload, 1) := by decide +kernel
theorem dL_law_1154 : decode cL_law 1154 = .ok (.invokevirtual 112, 3) := by decide +kernel
theorem dL_law_1157 : decode cL_law 1157 = .ok (.if_icmp .eq 222, 3) := by decide +kernel
theorem dL_law_1160 : decode cL_law 1160 = .ok (.iconst 0, 1) := by decide +kernel
theorem dL_law_1161 : decode cL_law 1161 = .ok (.ireturn, 1) := by decide +kernel
theorem dL_law_1162 : decode cL_law 1162 = .ok (.aload_n 1, 1) := by decide +kernel
theorem dL_law_1163 : decode cL_law 1163 = .ok (.aload_n 0, 1) := by decide +kernel
theorem dL_law_1164 : decode cL_law 1164 = .ok (.iload_n 3, 1) := by decide +kernel
theorem dL_law_1165 : decode cL_law 1165 = .ok (.iconst 1, 1) := by decide +kernel
theorem dL_law_1166 : decode cL_law 1166 = .ok (.iadd, 1) := by decide +kernel
theorem dL_law_1167 : decode cL_law 1167 = .ok (.iaload, 1) := by decide +kernel
theorem dL_law_1168 : decode cL_law 1168 = .ok (.aload_n 0, 1) := by decide +kernel
theorem dL_law_1169 : decode cL_law 1169 = .ok (.iload_n 3, 1) := by decide +kernel
theorem dL_law_1170 : decode cL_law 1170 = .ok (.iconst 2, 1) := by decide +kernel
theorem dL_law_1171 : decode cL_law 1171 = .ok (.iadd, 1) := by decide +kernel
theorem dL_law_1172 : decode cL_law 1172 = .ok (.iaload, 1) := by decide +kernel
theorem dL_law_1173 : decode cL_law 1173 = .ok (.invokevirtual 113, 3) := by decide +kernel
theorem dL_law_1176 : decode cL_law 1176 = .ok (.aload_n 2, 1) := by decide +kernel
theorem dL_law_1177 : decode cL_law 1177 = .ok (.aload_n 0, 1) := by decide +kernel
theorem dL_law_1178 : decode cL_law 1178 = .ok (.iload_n 3, 1) := by decide +kernel
theorem dL_law_1179 : decode cL_law 1179 = .ok (.iconst 1, 1) := by decide +kernel
theorem dL_law_1180 : decode cL_law 1180 = .ok (.iadd, 1) := by decide +kernel
theorem dL_law_1181 : decode cL_law 1181 = .ok (.iaload, 1) := by decide +kernel
theorem dL_law_1182 : decode cL_law 1182 = .ok (.aload_n 0, 1) := by decide +kernel
theorem dL_law_1183 : decode cL_law 1183 = .ok (.iload_n 3, 1) := by decide +kernel
theorem dL_law_1184 : decode cL_law 1184 = .ok (.iconst 2, 1) := by decide +kernel
theorem dL_law_1185 : decode cL_law 1185 = .ok (.iadd, 1) := by decide +kernel
theorem dL_law_1186 : decode cL_law 1186 = .ok (.iaload, 1) := by decide +kernel
theorem dL_law_1187 : decode cL_law 1187 = .ok (.invokevirtual 116, 3) := by decide +kernel
theorem dL_law_1190 : decode cL_law 1190 = .ok (.if_icmp .eq 189, 3) := by decide +kernel
theorem dL_law_1193 : decode cL_law 1193 = .ok (.iconst 0, 1) := by decide +kernel
theorem dL_law_1194 : decode cL_law 1194 = .ok (.ireturn, 1) := by decide +kernel
theorem dL_law_1195 : decode cL_law 1195 = .ok (.aload_n 1, 1) := by decide +kernel
theorem dL_law_1196 : decode cL_law 1196 = .ok (.invokevirtual 117, 3) := by decide +kernel
theorem dL_law_1199 : decode cL_law 1199 = .ok (.aload_n 2, 1) := by decide +kernel
theorem dL_law_1200 : decode cL_law 1200 = .ok (.invokevirtual 121, 3) := by decide +kernel
theorem dL_law_1203 : decode cL_law 1203 = .ok (.if_icmp .eq 176, 3) := by decide +kernel
theorem dL_law_1206 : decode cL_law 1206 = .ok (.iconst 0, 1) := by decide +kernel
theorem dL_law_1207 : decode cL_law 1207 = .ok (.ireturn, 1) := by decide +kernel
theorem dL_law_1208 : decode cL_law 1208 = .ok (.aload_n 1, 1) := by decide +kernel
theorem dL_law_1209 : decode cL_law 1209 = .ok (.aload_n 0, 1) := by decide +kernel
theorem dL_law_1210 : decode cL_law 1210 = .ok (.iload_n 3, 1) := by decide +kernel
theorem dL_law_1211 : decode cL_law 1211 = .ok (.iconst 1, 1) := by decide +kernel
theorem dL_law_1212 : decode cL_law 1212 = .ok (.iadd, 1) := by decide +kernel
theorem dL_law_1213 : decode cL_law 1213 = .ok (.iaload, 1) := by decide +kernel
theorem dL_law_1214 : decode cL_law 1214 = .ok (.invokevirtual 122, 3) := by decide +kernel
theorem dL_law_1217 : decode cL_law 1217 = .ok (.aload_n 2, 1) := by decide +kernel
theorem dL_law_1218 : decode cL_law 1218 = .ok (.aload_n 0, 1) := by decide +kernel
theorem dL_law_1219 : decode cL_law 1219 = .ok (.iload_n 3, 1) := by decide +kernel
theorem dL_law_1220 : decode cL_law 1220 = .ok (.iconst 1, 1) := by decide +kernel
theorem dL_law_1221 : decode cL_law 1221 = .ok (.iadd, 1) := by decide +kernel
theorem dL_law_1222 : decode cL_law 1222 = .ok (.iaload, 1) := by decide +kernel
theorem dL_law_1223 : decode cL_law 1223 = .ok (.invokevirtual 125, 3) := by decide +kernel
theorem dL_law_1226 : decode cL_law 1226 = .ok (.if_icmp .eq 153, 3) := by decide +kernel
theorem dL_law_1229 : decode cL_law 1229 = .ok (.iconst 0, 1) := by decide +kernel
theorem dL_law_1230 : decode cL_law 1230 = .ok (.ireturn, 1) := by decide +kernel
theorem dL_law_1231 : decode cL_law 1231 = .ok (.aload_n 1, 1) := by decide +kernel
theorem dL_law_1232 : decode cL_law 1232 = .ok (.aload_n 0, 1) := by decide +kernel
theorem dL_law_1233 : decode cL_law 1233 = .ok (.iload_n 3, 1) := by decide +kernel
theorem dL_law_1234 : decode cL_law 1234 = .ok (.iconst 1, 1) := by decide +kernel
theorem dL_law_1235 : decode cL_law 1235 = .ok (.iadd, 1) := by decide +kernel
theorem dL_law_1236 : decode cL_law 1236 = .ok (.iaload, 1) := by decide +kernel
theorem dL_law_1237 : decode cL_law 1237 = .ok (.invokevirtual 126, 3) := by decide +kernel
theorem dL_law_1240 : decode cL_law 1240 = .ok (.aload_n 2, 1) := by decide +kernel
theorem dL_law_1241 : decode cL_law 1241 = .ok (.aload_n 0, 1) := by decide +kernel
theorem dL_law_1242 : decode cL_law 1242 = .ok (.iload_n 3, 1) := by decide +kernel
theorem dL_law_1243 : decode cL_law 1243 = .ok (.iconst 1, 1) := by decide +kernel
theorem dL_law_1244 : decode cL_law 1244 = .ok (.iadd, 1) := by decide +kernel
theorem dL_law_1245 : decode cL_law 1245 = .ok (.iaload, 1) := by decide +kernel
theorem dL_law_1246 : decode cL_law 1246 = .ok (.invokevirtual 129, 3) := by decide +kernel
theorem dL_law_1249 : decode cL_law 1249 = .ok (.if_icmp .eq 130, 3) := by decide +kernel
theorem dL_law_1252 : decode cL_law 1252 = .ok (.iconst 0, 1) := by decide +kernel
theorem dL_law_1253 : decode cL_law 1253 = .ok (.ireturn, 1) := by decide +kernel
theorem dL_law_1254 : decode cL_law 1254 = .ok (.aload_n 1, 1) := by decide +kernel
theorem dL_law_1255 : decode cL_law 1255 = .ok (.invokevirtual 130, 3) := by decide +kernel
theorem dL_law_1258 : decode cL_law 1258 = .ok (.aload_n 2, 1) := by decide +kernel
theorem dL_law_1259 : decode cL_law 1259 = .ok (.invokevirtual 133, 3) := by decide +kernel
theorem dL_law_1262 : decode cL_law 1262 = .ok (.if_icmp .eq 117, 3) := by decide +kernel
theorem dL_law_1265 : decode cL_law 1265 = .ok (.iconst 0, 1) := by decide +kernel
theorem dL_law_1266 : decode cL_law 1266 = .ok (.ireturn, 1) := by decide +kernel
theorem dL_law_1267 : decode cL_law 1267 = .ok (.aload_n 1, 1) := by decide +kernel
theorem dL_law_1268 : decode cL_law 1268 = .ok (.aload_n 0, 1) := by decide +kernel
theorem dL_law_1269 : decode cL_law 1269 = .ok (.iload_n 3, 1) := by decide +kernel
theorem dL_law_1270 : decode cL_law 1270 = .ok (.iconst 1, 1) := by decide +kernel
theorem dL_law_1271 : decode cL_law 1271 = .ok (.iadd, 1) := by decide +kernel
theorem dL_law_1272 : decode cL_law 1272 = .ok (.iaload, 1) := by decide +kernel
theorem dL_law_1273 : decode cL_law 1273 = .ok (.invokevirtual 134, 3) := by decide +kernel
theorem dL_law_1276 : decode cL_law 1276 = .ok (.aload_n 2, 1) := by decide +kernel
theorem dL_law_1277 : decode cL_law 1277 = .ok (.aload_n 0, 1) := by decide +kernel
theorem dL_law_1278 : decode cL_law 1278 = .ok (.iload_n 3, 1) := by decide +kernel
theorem dL_law_1279 : decode cL_law 1279 = .ok (.iconst 1, 1) := by decide +kernel
theorem dL_law_1280 : decode cL_law 1280 = .ok (.iadd, 1) := by decide +kernel
theorem dL_law_1281 : decode cL_law 1281 = .ok (.iaload, 1) := by decide +kernel
theorem dL_law_1282 : decode cL_law 1282 = .ok (.invokevirtual 137, 3) := by decide +kernel
theorem dL_law_1285 : decode cL_law 1285 = .ok (.if_icmp .eq 94, 3) := by decide +kernel
theorem dL_law_1288 : decode cL_law 1288 = .ok (.iconst 0, 1) := by decide +kernel
theorem dL_law_1289 : decode cL_law 1289 = .ok (.ireturn, 1) := by decide +kernel
theorem dL_law_1290 : decode cL_law 1290 = .ok (.aload_n 1, 1) := by decide +kernel
theorem dL_law_1291 : decode cL_law 1291 = .ok (.aload_n 0, 1) := by decide +kernel
theorem dL_law_1292 : decode cL_law 1292 = .ok (.iload_n 3, 1) := by decide +kernel
theorem dL_law_1293 : decode cL_law 1293 = .ok (.iconst 1, 1) := by decide +kernel
theorem dL_law_1294 : decode cL_law 1294 = .ok (.iadd, 1) := by decide +kernel
theorem dL_law_1295 : decode cL_law 1295 = .ok (.iaload, 1) := by decide +kernel
theorem dL_law_1296 : decode cL_law 1296 = .ok (.aload_n 0, 1) := by decide +kernel
theorem dL_law_1297 : decode cL_law 1297 = .ok (.iload_n 3, 1) := by decide +kernel
theorem dL_law_1298 : decode cL_law 1298 = .ok (.iconst 2, 1) := by decide +kernel
theorem dL_law_1299 : decode cL_law 1299 = .ok (.iadd, 1) := by decide +kernel
theorem dL_law_1300 : decode cL_law 1300 = .ok (.iaload, 1) := by decide +kernel
theorem dL_law_1301 : decode cL_law 1301 = .ok (.invokevirtual 138, 3) := by decide +kernel
theorem dL_law_1304 : decode cL_law 1304 = .ok (.aload_n 2, 1) := by decide +kernel
theorem dL_law_1305 : decode cL_law 1305 = .ok (.aload_n 0, 1) := by decide +kernel
theorem dL_law_1306 : decode cL_law 1306 = .ok (.iload_n 3, 1) := by decide +kernel
theorem dL_law_1307 : decode cL_law 1307 = .ok (.iconst 1, 1) := by decide +kernel
theorem dL_law_1308 : decode cL_law 1308 = .ok (.iadd, 1) := by decide +kernel
theorem dL_law_1309 : decode cL_law 1309 = .ok (.iaload, 1) := by decide +kernel
theorem dL_law_1310 : decode cL_law 1310 = .ok (.aload_n 0, 1) := by decide +kernel
theorem dL_law_1311 : decode cL_law 1311 = .ok (.iload_n 3, 1) := by decide +kernel
theorem dL_law_1312 : decode cL_law 1312 = .ok (.iconst 2, 1) := by decide +kernel
theorem dL_law_1313 : decode cL_law 1313 = .ok (.iadd, 1) := by decide +kernel
theorem dL_law_1314 : decode cL_law 1314 = .ok (.iaload, 1) := by decide +kernel
theorem dL_law_1315 : decode cL_law 1315 = .ok (.invokevirtual 141, 3) := by decide +kernel
theorem dL_law_1318 : decode cL_law 1318 = .ok (.if_icmp .eq 61, 3) := by decide +kernel
theorem dL_law_1321 : decode cL_law 1321 = .ok (.iconst 0, 1) := by decide +kernel
theorem dL_law_1322 : decode cL_law 1322 = .ok (.ireturn, 1) := by decide +kernel
theorem dL_law_1323 : decode cL_law 1323 = .ok (.aload_n 1, 1) := by decide +kernel
theorem dL_law_1324 : decode cL_law 1324 = .ok (.aload_n 0, 1) := by decide +kernel
theorem dL_law_1325 : decode cL_law 1325 = .ok (.iload_n 3, 1) := by decide +kernel
theorem dL_law_1326 : decode cL_law 1326 = .ok (.iconst 1, 1) := by decide +kernel
theorem dL_law_1327 : decode cL_law 1327 = .ok (.iadd, 1) := by decide +kernel
theorem dL_law_1328 : decode cL_law 1328 = .ok (.iaload, 1) := by decide +kernel
theorem dL_law_1329 : decode cL_law 1329 = .ok (.aload_n 0, 1) := by decide +kernel
theorem dL_law_1330 : decode cL_law 1330 = .ok (.iload_n 3, 1) := by decide +kernel
theorem dL_law_1331 : decode cL_law 1331 = .ok (.iconst 2, 1) := by decide +kernel
theorem dL_law_1332 : decode cL_law 1332 = .ok (.iadd, 1) := by decide +kernel
theorem dL_law_1333 : decode cL_law 1333 = .ok (.iaload, 1) := by decide +kernel
theorem dL_law_1334 : decode cL_law 1334 = .ok (.invokevirtual 142, 3) := by decide +kernel
theorem dL_law_1337 : decode cL_law 1337 = .ok (.aload_n 2, 1) := by decide +kernel
theorem dL_law_1338 : decode cL_law 1338 = .ok (.aload_n 0, 1) := by decide +kernel
theorem dL_law_1339 : decode cL_law 1339 = .ok (.iload_n 3, 1) := by decide +kernel
theorem dL_law_1340 : decode cL_law 1340 = .ok (.iconst 1, 1) := by decide +kernel
theorem dL_law_1341 : decode cL_law 1341 = .ok (.iadd, 1) := by decide +kernel
theorem dL_law_1342 : decode cL_law 1342 = .ok (.iaload, 1) := by decide +kernel
theorem dL_law_1343 : decode cL_law 1343 = .ok (.aload_n 0, 1) := by decide +kernel
theorem dL_law_1344 : decode cL_law 1344 = .ok (.iload_n 3, 1) := by decide +kernel
theorem dL_law_1345 : decode cL_law 1345 = .ok (.iconst 2, 1) := by decide +kernel
theorem dL_law_1346 : decode cL_law 1346 = .ok (.iadd, 1) := by decide +kernel
theorem dL_law_1347 : decode cL_law 1347 = .ok (.iaload, 1) := by decide +kernel
theorem dL_law_1348 : decode cL_law 1348 = .ok (.invokevirtual 145, 3) := by decide +kernel
theorem dL_law_1351 : decode cL_law 1351 = .ok (.if_icmp .eq 28, 3) := by decide +kernel
theorem dL_law_1354 : decode cL_law 1354 = .ok (.iconst 0, 1) := by decide +kernel
theorem dL_law_1355 : decode cL_law 1355 = .ok (.ireturn, 1) := by decide +kernel
theorem dL_law_1356 : decode cL_law 1356 = .ok (.aload_n 1, 1) := by decide +kernel
theorem dL_law_1357 : decode cL_law 1357 = .ok (.aload_n 0, 1) := by decide +kernel
theorem dL_law_1358 : decode cL_law 1358 = .ok (.iload_n 3, 1) := by decide +kernel
theorem dL_law_1359 : decode cL_law 1359 = .ok (.iconst 1, 1) := by decide +kernel
theorem dL_law_1360 : decode cL_law 1360 = .ok (.iadd, 1) := by decide +kernel
theorem dL_law_1361 : decode cL_law 1361 = .ok (.iaload, 1) := by decide +kernel
theorem dL_law_1362 : decode cL_law 1362 = .ok (.invokevirtual 146, 3) := by decide +kernel
theorem dL_law_1365 : decode cL_law 1365 = .ok (.aload_n 2, 1) := by decide +kernel
theorem dL_law_1366 : decode cL_law 1366 = .ok (.aload_n 0, 1) := by decide +kernel
theorem dL_law_1367 : decode cL_law 1367 = .ok (.iload_n 3, 1) := by decide +kernel
theorem dL_law_1368 : decode cL_law 1368 = .ok (.iconst 1, 1) := by decide +kernel
theorem dL_law_1369 : decode cL_law 1369 = .ok (.iadd, 1) := by decide +kernel
theorem dL_law_1370 : decode cL_law 1370 = .ok (.iaload, 1) := by decide +kernel
theorem dL_law_1371 : decode cL_law 1371 = .ok (.invokevirtual 149, 3) := by decide +kernel
theorem dL_law_1374 : decode cL_law 1374 = .ok (.if_icmp .eq 5, 3) := by decide +kernel
theorem dL_law_1377 : decode cL_law 1377 = .ok (.iconst 0, 1) := by decide +kernel
theorem dL_law_1378 : decode cL_law 1378 = .ok (.ireturn, 1) := by decide +kernel
theorem dL_law_1379 : decode cL_law 1379 = .ok (.iinc 3 7, 3) := by decide +kernel
theorem dL_law_1382 : decode cL_law 1382 = .ok (.goto (-1364), 3) := by decide +kernel
theorem dL_law_1385 : decode cL_law 1385 = .ok (.iconst 1, 1) := by decide +kernel
theorem dL_law_1386 : decode cL_law 1386 = .ok (.ireturn, 1) := by decide +kernel
