def wNX10_see : Nat := 151142303748594859502999659609844570375262622591458774229742173468349721447736870129719873894217302332802718340409377413191082726417058772546994421080663294784554
theorem wX10_see_c : hz_cd cX10_see wNX10_see 67 := ⟨by decide +kernel, by decide +kernel⟩
theorem dX10_see_0 : decode cX10_see 0 = .ok (.aload_n 0, 1) := dw_42 wX10_see_c rfl
theorem dX10_see_1 : decode cX10_see 1 = .ok (.getfield 245, 3) := dw_180 wX10_see_c 0 245 rfl rfl
theorem dX10_see_4 : decode cX10_see 4 = .ok (.aload_n 0, 1) := dw_42 wX10_see_c rfl
theorem dX10_see_5 : decode cX10_see 5 = .ok (.getfield 236, 3) := dw_180 wX10_see_c 0 236 rfl rfl
theorem dX10_see_8 : decode cX10_see 8 = .ok (.if_icmp .ge 30, 3) := dw_162 wX10_see_c 0 30 rfl rfl rfl
theorem dX10_see_11 : decode cX10_see 11 = .ok (.aload_n 0, 1) := dw_42 wX10_see_c rfl
theorem dX10_see_12 : decode cX10_see 12 = .ok (.getfield 22, 3) := dw_180 wX10_see_c 0 22 rfl rfl
theorem dX10_see_15 : decode cX10_see 15 = .ok (.aload_n 0, 1) := dw_42 wX10_see_c rfl
theorem dX10_see_16 : decode cX10_see 16 = .ok (.getfield 245, 3) := dw_180 wX10_see_c 0 245 rfl rfl
theorem dX10_see_19 : decode cX10_see 19 = .ok (.baload, 1) := dw_51 wX10_see_c rfl
theorem dX10_see_20 : decode cX10_see 20 = .ok (.bipush 32, 2) := dw_16 wX10_see_c 32 rfl rfl rfl
theorem dX10_see_22 : decode cX10_see 22 = .ok (.if_icmp .ne 16, 3) := dw_160 wX10_see_c 0 16 rfl rfl rfl
theorem dX10_see_25 : decode cX10_see 25 = .ok (.aload_n 0, 1) := dw_42 wX10_see_c rfl
theorem dX10_see_26 : decode cX10_see 26 = .ok (.dup, 1) := dw_89 wX10_see_c rfl
theorem dX10_see_27 : decode cX10_see 27 = .ok (.getfield 245, 3) := dw_180 wX10_see_c 0 245 rfl rfl
theorem dX10_see_30 : decode cX10_see 30 = .ok (.iconst 1, 1) := dw_4 wX10_see_c rfl
theorem dX10_see_31 : decode cX10_see 31 = .ok (.iadd, 1) := dw_96 wX10_see_c rfl
theorem dX10_see_32 : decode cX10_see 32 = .ok (.putfield 245, 3) := dw_181 wX10_see_c 0 245 rfl rfl
theorem dX10_see_35 : decode cX10_see 35 = .ok (.goto (-35), 3) := dn_167 wX10_see_c 255 221 rfl (by decide)
theorem dX10_see_38 : decode cX10_see 38 = .ok (.aload_n 0, 1) := dw_42 wX10_see_c rfl
theorem dX10_see_39 : decode cX10_see 39 = .ok (.getfield 245, 3) := dw_180 wX10_see_c 0 245 rfl rfl
theorem dX10_see_42 : decode cX10_see 42 = .ok (.aload_n 0, 1) := dw_42 wX10_see_c rfl
theorem dX10_see_43 : decode cX10_see 43 = .ok (.getfield 236, 3) := dw_180 wX10_see_c 0 236 rfl rfl
theorem dX10_see_46 : decode cX10_see 46 = .ok (.if_icmp .ge 19, 3) := dw_162 wX10_see_c 0 19 rfl rfl rfl
theorem dX10_see_49 : decode cX10_see 49 = .ok (.aload_n 0, 1) := dw_42 wX10_see_c rfl
theorem dX10_see_50 : decode cX10_see 50 = .ok (.getfield 22, 3) := dw_180 wX10_see_c 0 22 rfl rfl
theorem dX10_see_53 : decode cX10_see 53 = .ok (.aload_n 0, 1) := dw_42 wX10_see_c rfl
theorem dX10_see_54 : decode cX10_see 54 = .ok (.getfield 245, 3) := dw_180 wX10_see_c 0 245 rfl rfl
theorem dX10_see_57 : decode cX10_see 57 = .ok (.baload, 1) := dw_51 wX10_see_c rfl
theorem dX10_see_58 : decode cX10_see 58 = .ok (.sipush 255, 3) := dw_17 wX10_see_c 0 255 rfl rfl rfl
theorem dX10_see_61 : decode cX10_see 61 = .ok (.iand, 1) := dw_126 wX10_see_c rfl
theorem dX10_see_62 : decode cX10_see 62 = .ok (.goto 4, 3) := dw_167 wX10_see_c 0 4 rfl rfl rfl
theorem dX10_see_65 : decode cX10_see 65 = .ok (.iconst (-1), 1) := dw_2 wX10_see_c rfl
theorem dX10_see_66 : decode cX10_see 66 = .ok (.ireturn, 1) := dw_172 wX10_see_c rfl
def wNX10_wordHere : Nat := 1957882188619201299505882960516965862308835860336176503465250770406331608326279808436903951255204884672807655683813070435217911916777402027070187278411800054413059164051945378181701451302131691596394616325180382435985491903480591720071342273608501295450364254340226874999955313670389271130217539419331908984571743711105633083122499445059339181973947152321321416925305472015408440964068169629909156921371108598428638082175888299590825744607291767208282821030160209592164813319157653222954
theorem wX10_wordHere_c : hz_cd cX10_wordHere wNX10_wordHere 202 := ⟨by decide +kernel, by decide +kernel⟩
theorem dX10_wordHere_0 : decode cX10_wordHere 0 = .ok (.aload_n 0, 1) := dw_42 wX10_wordHere_c rfl
theorem dX10_wordHere_1 : decode cX10_wordHere 1 = .ok (.invokevirtual 248, 3) := dw_182 wX10_wordHere_c 0 248 rfl rfl
theorem dX10_wordHere_4 : decode cX10_wordHere 4 = .ok (.pop, 1) := dw_87 wX10_wordHere_c rfl
theorem dX10_wordHere_5 : decode cX10_wordHere 5 = .ok (.aload_n 0, 1) := dw_42 wX10_wordHere_c rfl
theorem dX10_wordHere_6 : decode cX10_wordHere 6 = .ok (.iconst 0, 1) := dw_3 wX10_wordHere_c rfl
theorem dX10_wordHere_7 : decode cX10_wordHere 7 = .ok (.putfield 252, 3) := dw_181 wX10_wordHere_c 0 252 rfl rfl
theorem dX10_wordHere_10 : decode cX10_wordHere 10 = .ok (.aload_n 0, 1) := dw_42 wX10_wordHere_c rfl
theorem dX10_wordHere_11 : decode cX10_wordHere 11 = .ok (.getfield 245, 3) := dw_180 wX10_wordHere_c 0 245 rfl rfl
theorem dX10_wordHere_14 : decode cX10_wordHere 14 = .ok (.aload_n 0, 1) := dw_42 wX10_wordHere_c rfl
theorem dX10_wordHere_15 : decode cX10_wordHere 15 = .ok (.getfield 252, 3) := dw_180 wX10_wordHere_c 0 252 rfl rfl
theorem dX10_wordHere_18 : decode cX10_wordHere 18 = .ok (.iadd, 1) := dw_96 wX10_wordHere_c rfl
theorem dX10_wordHere_19 : decode cX10_wordHere 19 = .ok (.aload_n 0, 1) := dw_42 wX10_wordHere_c rfl
theorem dX10_wordHere_20 : decode cX10_wordHere 20 = .ok (.getfield 236, 3) := dw_180 wX10_wordHere_c 0 236 rfl rfl
theorem dX10_wordHere_23 : decode cX10_wordHere 23 = .ok (.if_icmp .ge 54, 3) := dw_162 wX10_wordHere_c 0 54 rfl rfl rfl
theorem dX10_wordHere_26 : decode cX10_wordHere 26 = .ok (.aload_n 0, 1) := dw_42 wX10_wordHere_c rfl
theorem dX10_wordHere_27 : decode cX10_wordHere 27 = .ok (.getfield 22, 3) := dw_180 wX10_wordHere_c 0 22 rfl rfl
theorem dX10_wordHere_30 : decode cX10_wordHere 30 = .ok (.aload_n 0, 1) := dw_42 wX10_wordHere_c rfl
theorem dX10_wordHere_31 : decode cX10_wordHere 31 = .ok (.getfield 245, 3) := dw_180 wX10_wordHere_c 0 245 rfl rfl
theorem dX10_wordHere_34 : decode cX10_wordHere 34 = .ok (.aload_n 0, 1) := dw_42 wX10_wordHere_c rfl
theorem dX10_wordHere_35 : decode cX10_wordHere 35 = .ok (.getfield 252, 3) := dw_180 wX10_wordHere_c 0 252 rfl rfl
theorem dX10_wordHere_38 : decode cX10_wordHere 38 = .ok (.iadd, 1) := dw_96 wX10_wordHere_c rfl
theorem dX10_wordHere_39 : decode cX10_wordHere 39 = .ok (.baload, 1) := dw_51 wX10_wordHere_c rfl
theorem dX10_wordHere_40 : decode cX10_wordHere 40 = .ok (.bipush 97, 2) := dw_16 wX10_wordHere_c 97 rfl rfl rfl
theorem dX10_wordHere_42 : decode cX10_wordHere 42 = .ok (.if_icmp .lt 35, 3) := dw_161 wX10_wordHere_c 0 35 rfl rfl rfl
theorem dX10_wordHere_45 : decode cX10_wordHere 45 = .ok (.aload_n 0, 1) := dw_42 wX10_wordHere_c rfl
theorem dX10_wordHere_46 : decode cX10_wordHere 46 = .ok (.getfield 22, 3) := dw_180 wX10_wordHere_c 0 22 rfl rfl
theorem dX10_wordHere_49 : decode cX10_wordHere 49 = .ok (.aload_n 0, 1) := dw_42 wX10_wordHere_c rfl
theorem dX10_wordHere_50 : decode cX10_wordHere 50 = .ok (.getfield 245, 3) := dw_180 wX10_wordHere_c 0 245 rfl rfl
theorem dX10_wordHere_53 : decode cX10_wordHere 53 = .ok (.aload_n 0, 1) := dw_42 wX10_wordHere_c rfl
theorem dX10_wordHere_54 : decode cX10_wordHere 54 = .ok (.getfield 252, 3) := dw_180 wX10_wordHere_c 0 252 rfl rfl
theorem dX10_wordHere_57 : decode cX10_wordHere 57 = .ok (.iadd, 1) := dw_96 wX10_wordHere_c rfl
theorem dX10_wordHere_58 : decode cX10_wordHere 58 = .ok (.baload, 1) := dw_51 wX10_wordHere_c rfl
theorem dX10_wordHere_59 : decode cX10_wordHere 59 = .ok (.bipush 122, 2) := dw_16 wX10_wordHere_c 122 rfl rfl rfl
theorem dX10_wordHere_61 : decode cX10_wordHere 61 = .ok (.if_icmp .gt 16, 3) := dw_163 wX10_wordHere_c 0 16 rfl rfl rfl
theorem dX10_wordHere_64 : decode cX10_wordHere 64 = .ok (.aload_n 0, 1) := dw_42 wX10_wordHere_c rfl
theorem dX10_wordHere_65 : decode cX10_wordHere 65 = .ok (.dup, 1) := dw_89 wX10_wordHere_c rfl
theorem dX10_wordHere_66 : decode cX10_wordHere 66 = .ok (.getfield 252, 3) := dw_180 wX10_wordHere_c 0 252 rfl rfl
theorem dX10_wordHere_69 : decode cX10_wordHere 69 = .ok (.iconst 1, 1) := dw_4 wX10_wordHere_c rfl
theorem dX10_wordHere_70 : decode cX10_wordHere 70 = .ok (.iadd, 1) := dw_96 wX10_wordHere_c rfl
theorem dX10_wordHere_71 : decode cX10_wordHere 71 = .ok (.putfield 252, 3) := dw_181 wX10_wordHere_c 0 252 rfl rfl
theorem dX10_wordHere_74 : decode cX10_wordHere 74 = .ok (.goto (-64), 3) := dn_167 wX10_wordHere_c 255 192 rfl (by decide)
theorem dX10_wordHere_77 : decode cX10_wordHere 77 = .ok (.iconst 0, 1) := dw_3 wX10_wordHere_c rfl
theorem dX10_wordHere_78 : decode cX10_wordHere 78 = .ok (.istore_n 1, 1) := dw_60 wX10_wordHere_c rfl
theorem dX10_wordHere_79 : decode cX10_wordHere 79 = .ok (.iload_n 1, 1) := dw_27 wX10_wordHere_c rfl
theorem dX10_wordHere_80 : decode cX10_wordHere 80 = .ok (.bipush 25, 2) := dw_16 wX10_wordHere_c 25 rfl rfl rfl
theorem dX10_wordHere_82 : decode cX10_wordHere 82 = .ok (.if_icmp .ge 118, 3) := dw_162 wX10_wordHere_c 0 118 rfl rfl rfl
theorem dX10_wordHere_85 : decode cX10_wordHere 85 = .ok (.aload_n 0, 1) := dw_42 wX10_wordHere_c rfl
theorem dX10_wordHere_86 : decode cX10_wordHere 86 = .ok (.getfield 252, 3) := dw_180 wX10_wordHere_c 0 252 rfl rfl
theorem dX10_wordHere_89 : decode cX10_wordHere 89 = .ok (.bipush 7, 2) := dw_16 wX10_wordHere_c 7 rfl rfl rfl
theorem dX10_wordHere_91 : decode cX10_wordHere 91 = .ok (.if_icmp .gt 109, 3) := dw_163 wX10_wordHere_c 0 109 rfl rfl rfl
theorem dX10_wordHere_94 : decode cX10_wordHere 94 = .ok (.iconst 0, 1) := dw_3 wX10_wordHere_c rfl
theorem dX10_wordHere_95 : decode cX10_wordHere 95 = .ok (.istore_n 2, 1) := dw_61 wX10_wordHere_c rfl
theorem dX10_wordHere_96 : decode cX10_wordHere 96 = .ok (.iload_n 2, 1) := dw_28 wX10_wordHere_c rfl
theorem dX10_wordHere_97 : decode cX10_wordHere 97 = .ok (.bipush 7, 2) := dw_16 wX10_wordHere_c 7 rfl rfl rfl
theorem dX10_wordHere_99 : decode cX10_wordHere 99 = .ok (.if_icmp .ge 23, 3) := dw_162 wX10_wordHere_c 0 23 rfl rfl rfl
theorem dX10_wordHere_102 : decode cX10_wordHere 102 = .ok (.aload_n 0, 1) := dw_42 wX10_wordHere_c rfl
theorem dX10_wordHere_103 : decode cX10_wordHere 103 = .ok (.getfield 35, 3) := dw_180 wX10_wordHere_c 0 35 rfl rfl
theorem dX10_wordHere_106 : decode cX10_wordHere 106 = .ok (.bipush 7, 2) := dw_16 wX10_wordHere_c 7 rfl rfl rfl
theorem dX10_wordHere_108 : decode cX10_wordHere 108 = .ok (.iload_n 1, 1) := dw_27 wX10_wordHere_c rfl
theorem dX10_wordHere_109 : decode cX10_wordHere 109 = .ok (.imul, 1) := dw_104 wX10_wordHere_c rfl
theorem dX10_wordHere_110 : decode cX10_wordHere 110 = .ok (.iload_n 2, 1) := dw_28 wX10_wordHere_c rfl
theorem dX10_wordHere_111 : decode cX10_wordHere 111 = .ok (.iadd, 1) := dw_96 wX10_wordHere_c rfl
theorem dX10_wordHere_112 : decode cX10_wordHere 112 = .ok (.baload, 1) := dw_51 wX10_wordHere_c rfl
theorem dX10_wordHere_113 : decode cX10_wordHere 113 = .ok (.ifCond .eq 9, 3) := dw_153 wX10_wordHere_c 0 9 rfl rfl rfl
theorem dX10_wordHere_116 : decode cX10_wordHere 116 = .ok (.iinc 2 1, 3) := dw_132 wX10_wordHere_c 2 1 rfl rfl rfl
theorem dX10_wordHere_119 : decode cX10_wordHere 119 = .ok (.goto (-23), 3) := dn_167 wX10_wordHere_c 255 233 rfl (by decide)
theorem dX10_wordHere_122 : decode cX10_wordHere 122 = .ok (.iload_n 2, 1) := dw_28 wX10_wordHere_c rfl
theorem dX10_wordHere_123 : decode cX10_wordHere 123 = .ok (.aload_n 0, 1) := dw_42 wX10_wordHere_c rfl
theorem dX10_wordHere_124 : decode cX10_wordHere 124 = .ok (.getfield 252, 3) := dw_180 wX10_wordHere_c 0 252 rfl rfl
theorem dX10_wordHere_127 : decode cX10_wordHere 127 = .ok (.if_icmp .ne 7, 3) := dw_160 wX10_wordHere_c 0 7 rfl rfl rfl
theorem dX10_wordHere_130 : decode cX10_wordHere 130 = .ok (.iconst 1, 1) := dw_4 wX10_wordHere_c rfl
theorem dX10_wordHere_131 : decode cX10_wordHere 131 = .ok (.goto 4, 3) := dw_167 wX10_wordHere_c 0 4 rfl rfl rfl
theorem dX10_wordHere_134 : decode cX10_wordHere 134 = .ok (.iconst 0, 1) := dw_3 wX10_wordHere_c rfl
theorem dX10_wordHere_135 : decode cX10_wordHere 135 = .ok (.istore_n 3, 1) := dw_62 wX10_wordHere_c rfl
theorem dX10_wordHere_136 : decode cX10_wordHere 136 = .ok (.iconst 0, 1) := dw_3 wX10_wordHere_c rfl
theorem dX10_wordHere_137 : decode cX10_wordHere 137 = .ok (.istore 4, 2) := dw_54 wX10_wordHere_c 4 rfl
theorem dX10_wordHere_139 : decode cX10_wordHere 139 = .ok (.iload_n 3, 1) := dw_29 wX10_wordHere_c rfl
theorem dX10_wordHere_140 : decode cX10_wordHere 140 = .ok (.ifCond .eq 48, 3) := dw_153 wX10_wordHere_c 0 48 rfl rfl rfl
theorem dX10_wordHere_143 : decode cX10_wordHere 143 = .ok (.iload 4, 2) := dw_21 wX10_wordHere_c 4 rfl
theorem dX10_wordHere_145 : decode cX10_wordHere 145 = .ok (.iload_n 2, 1) := dw_28 wX10_wordHere_c rfl
theorem dX10_wordHere_146 : decode cX10_wordHere 146 = .ok (.if_icmp .ge 42, 3) := dw_162 wX10_wordHere_c 0 42 rfl rfl rfl
theorem dX10_wordHere_149 : decode cX10_wordHere 149 = .ok (.aload_n 0, 1) := dw_42 wX10_wordHere_c rfl
theorem dX10_wordHere_150 : decode cX10_wordHere 150 = .ok (.getfield 35, 3) := dw_180 wX10_wordHere_c 0 35 rfl rfl
theorem dX10_wordHere_153 : decode cX10_wordHere 153 = .ok (.bipush 7, 2) := dw_16 wX10_wordHere_c 7 rfl rfl rfl
theorem dX10_wordHere_155 : decode cX10_wordHere 155 = .ok (.iload_n 1, 1) := dw_27 wX10_wordHere_c rfl
theorem dX10_wordHere_156 : decode cX10_wordHere 156 = .ok (.imul, 1) := dw_104 wX10_wordHere_c rfl
theorem dX10_wordHere_157 : decode cX10_wordHere 157 = .ok (.iload 4, 2) := dw_21 wX10_wordHere_c 4 rfl
theorem dX10_wordHere_159 : decode cX10_wordHere 159 = .ok (.iadd, 1) := dw_96 wX10_wordHere_c rfl
theorem dX10_wordHere_160 : decode cX10_wordHere 160 = .ok (.baload, 1) := dw_51 wX10_wordHere_c rfl
theorem dX10_wordHere_161 : decode cX10_wordHere 161 = .ok (.aload_n 0, 1) := dw_42 wX10_wordHere_c rfl
theorem dX10_wordHere_162 : decode cX10_wordHere 162 = .ok (.getfield 22, 3) := dw_180 wX10_wordHere_c 0 22 rfl rfl
theorem dX10_wordHere_165 : decode cX10_wordHere 165 = .ok (.aload_n 0, 1) := dw_42 wX10_wordHere_c rfl
theorem dX10_wordHere_166 : decode cX10_wordHere 166 = .ok (.getfield 245, 3) := dw_180 wX10_wordHere_c 0 245 rfl rfl
theorem dX10_wordHere_169 : decode cX10_wordHere 169 = .ok (.iload 4, 2) := dw_21 wX10_wordHere_c 4 rfl
theorem dX10_wordHere_171 : decode cX10_wordHere 171 = .ok (.iadd, 1) := dw_96 wX10_wordHere_c rfl
theorem dX10_wordHere_172 : decode cX10_wordHere 172 = .ok (.baload, 1) := dw_51 wX10_wordHere_c rfl
theorem dX10_wordHere_173 : decode cX10_wordHere 173 = .ok (.if_icmp .ne 7, 3) := dw_160 wX10_wordHere_c 0 7 rfl rfl rfl
theorem dX10_wordHere_176 : decode cX10_wordHere 176 = .ok (.iconst 1, 1) := dw_4 wX10_wordHere_c rfl
theorem dX10_wordHere_177 : decode cX10_wordHere 177 = .ok (.goto 4, 3) := dw_167 wX10_wordHere_c 0 4 rfl rfl rfl
theorem dX10_wordHere_180 : decode cX10_wordHere 180 = .ok (.iconst 0, 1) := dw_3 wX10_wordHere_c rfl
theorem dX10_wordHere_181 : decode cX10_wordHere 181 = .ok (.istore_n 3, 1) := dw_62 wX10_wordHere_c rfl
theorem dX10_wordHere_182 : decode cX10_wordHere 182 = .ok (.iinc 4 1, 3) := dw_132 wX10_wordHere_c 4 1 rfl rfl rfl
theorem dX10_wordHere_185 : decode cX10_wordHere 185 = .ok (.goto (-46), 3) := dn_167 wX10_wordHere_c 255 210 rfl (by decide)
theorem dX10_wordHere_188 : decode cX10_wordHere 188 = .ok (.iload_n 3, 1) := dw_29 wX10_wordHere_c rfl
theorem dX10_wordHere_189 : decode cX10_wordHere 189 = .ok (.ifCond .eq 5, 3) := dw_153 wX10_wordHere_c 0 5 rfl rfl rfl
theorem dX10_wordHere_192 : decode cX10_wordHere 192 = .ok (.iload_n 1, 1) := dw_27 wX10_wordHere_c rfl
theorem dX10_wordHere_193 : decode cX10_wordHere 193 = .ok (.ireturn, 1) := dw_172 wX10_wordHere_c rfl
theorem dX10_wordHere_194 : decode cX10_wordHere 194 = .ok (.iinc 1 1, 3) := dw_132 wX10_wordHere_c 1 1 rfl rfl rfl
theorem dX10_wordHere_197 : decode cX10_wordHere 197 = .ok (.goto (-118), 3) := dn_167 wX10_wordHere_c 255 138 rfl (by decide)
theorem dX10_wordHere_200 : decode cX10_wordHere 200 = .ok (.iconst (-1), 1) := dw_2 wX10_wordHere_c rfl
theorem dX10_wordHere_201 : decode cX10_wordHere 201 = .ok (.ireturn, 1) := dw_172 wX10_wordHere_c rfl
def wNX10_number : Nat := 213418834339639832521153577551443117508896870424881802600295817234375703550706139668714117474575748105824967556937172559050725584006313756994273285175286086897681448044725292426060865977740624137849231648122061790122626840366291341045407970793369908258274119159923018820983527205602371421795874318421927323613624246638015310118682230483791523242935426844392664227994719477496329770
theorem wX10_number_c : hz_cd cX10_number wNX10_number 158 := ⟨by decide +kernel, by decide +kernel⟩
theorem dX10_number_0 : decode cX10_number 0 = .ok (.aload_n 0, 1) := dw_42 wX10_number_c rfl
theorem dX10_number_1 : decode cX10_number 1 = .ok (.invokevirtual 248, 3) := dw_182 wX10_number_c 0 248 rfl rfl
theorem dX10_number_4 : decode cX10_number 4 = .ok (.istore_n 3, 1) := dw_62 wX10_number_c rfl
theorem dX10_number_5 : decode cX10_number 5 = .ok (.iload_n 3, 1) := dw_29 wX10_number_c rfl
theorem dX10_number_6 : decode cX10_number 6 = .ok (.bipush 48, 2) := dw_16 wX10_number_c 48 rfl rfl rfl
theorem dX10_number_8 : decode cX10_number 8 = .ok (.if_icmp .lt 9, 3) := dw_161 wX10_number_c 0 9 rfl rfl rfl
theorem dX10_number_11 : decode cX10_number 11 = .ok (.iload_n 3, 1) := dw_29 wX10_number_c rfl
theorem dX10_number_12 : decode cX10_number 12 = .ok (.bipush 57, 2) := dw_16 wX10_number_c 57 rfl rfl rfl
theorem dX10_number_14 : decode cX10_number 14 = .ok (.if_icmp .le 13, 3) := dw_164 wX10_number_c 0 13 rfl rfl rfl
theorem dX10_number_17 : decode cX10_number 17 = .ok (.aload_n 0, 1) := dw_42 wX10_number_c rfl
theorem dX10_number_18 : decode cX10_number 18 = .ok (.iconst 0, 1) := dw_3 wX10_number_c rfl
theorem dX10_number_19 : decode cX10_number 19 = .ok (.aload_n 0, 1) := dw_42 wX10_number_c rfl
theorem dX10_number_20 : decode cX10_number 20 = .ok (.getfield 245, 3) := dw_180 wX10_number_c 0 245 rfl rfl
theorem dX10_number_23 : decode cX10_number 23 = .ok (.invokevirtual 255, 3) := dw_182 wX10_number_c 0 255 rfl rfl
theorem dX10_number_26 : decode cX10_number 26 = .ok (.ireturn, 1) := dw_172 wX10_number_c rfl
theorem dX10_number_27 : decode cX10_number 27 = .ok (.aload_n 0, 1) := dw_42 wX10_number_c rfl
theorem dX10_number_28 : decode cX10_number 28 = .ok (.getfield 245, 3) := dw_180 wX10_number_c 0 245 rfl rfl
theorem dX10_number_31 : decode cX10_number 31 = .ok (.istore 4, 2) := dw_54 wX10_number_c 4 rfl
theorem dX10_number_33 : decode cX10_number 33 = .ok (.iconst 0, 1) := dw_3 wX10_number_c rfl
theorem dX10_number_34 : decode cX10_number 34 = .ok (.istore 5, 2) := dw_54 wX10_number_c 5 rfl
theorem dX10_number_36 : decode cX10_number 36 = .ok (.iconst 0, 1) := dw_3 wX10_number_c rfl
theorem dX10_number_37 : decode cX10_number 37 = .ok (.istore 6, 2) := dw_54 wX10_number_c 6 rfl
theorem dX10_number_39 : decode cX10_number 39 = .ok (.aload_n 0, 1) := dw_42 wX10_number_c rfl
theorem dX10_number_40 : decode cX10_number 40 = .ok (.getfield 245, 3) := dw_180 wX10_number_c 0 245 rfl rfl
theorem dX10_number_43 : decode cX10_number 43 = .ok (.aload_n 0, 1) := dw_42 wX10_number_c rfl
theorem dX10_number_44 : decode cX10_number 44 = .ok (.getfield 236, 3) := dw_180 wX10_number_c 0 236 rfl rfl
theorem dX10_number_47 : decode cX10_number 47 = .ok (.if_icmp .ge 73, 3) := dw_162 wX10_number_c 0 73 rfl rfl rfl
theorem dX10_number_50 : decode cX10_number 50 = .ok (.aload_n 0, 1) := dw_42 wX10_number_c rfl
theorem dX10_number_51 : decode cX10_number 51 = .ok (.getfield 22, 3) := dw_180 wX10_number_c 0 22 rfl rfl
theorem dX10_number_54 : decode cX10_number 54 = .ok (.aload_n 0, 1) := dw_42 wX10_number_c rfl
theorem dX10_number_55 : decode cX10_number 55 = .ok (.getfield 245, 3) := dw_180 wX10_number_c 0 245 rfl rfl
theorem dX10_number_58 : decode cX10_number 58 = .ok (.baload, 1) := dw_51 wX10_number_c rfl
theorem dX10_number_59 : decode cX10_number 59 = .ok (.bipush 48, 2) := dw_16 wX10_number_c 48 rfl rfl rfl
theorem dX10_number_61 : decode cX10_number 61 = .ok (.if_icmp .lt 59, 3) := dw_161 wX10_number_c 0 59 rfl rfl rfl
theorem dX10_number_64 : decode cX10_number 64 = .ok (.aload_n 0, 1) := dw_42 wX10_number_c rfl
theorem dX10_number_65 : decode cX10_number 65 = .ok (.getfield 22, 3) := dw_180 wX10_number_c 0 22 rfl rfl
theorem dX10_number_68 : decode cX10_number 68 = .ok (.aload_n 0, 1) := dw_42 wX10_number_c rfl
theorem dX10_number_69 : decode cX10_number 69 = .ok (.getfield 245, 3) := dw_180 wX10_number_c 0 245 rfl rfl
theorem dX10_number_72 : decode cX10_number 72 = .ok (.baload, 1) := dw_51 wX10_number_c rfl
theorem dX10_number_73 : decode cX10_number 73 = .ok (.bipush 57, 2) := dw_16 wX10_number_c 57 rfl rfl rfl
theorem dX10_number_75 : decode cX10_number 75 = .ok (.if_icmp .gt 45, 3) := dw_163 wX10_number_c 0 45 rfl rfl rfl
theorem dX10_number_78 : decode cX10_number 78 = .ok (.iload 5, 2) := dw_21 wX10_number_c 5 rfl
theorem dX10_number_80 : decode cX10_number 80 = .ok (.iconst 4, 1) := dw_7 wX10_number_c rfl
theorem dX10_number_81 : decode cX10_number 81 = .ok (.if_icmp .ge 23, 3) := dw_162 wX10_number_c 0 23 rfl rfl rfl
theorem dX10_number_84 : decode cX10_number 84 = .ok (.bipush 10, 2) := dw_16 wX10_number_c 10 rfl rfl rfl
theorem dX10_number_86 : decode cX10_number 86 = .ok (.iload 6, 2) := dw_21 wX10_number_c 6 rfl
theorem dX10_number_88 : decode cX10_number 88 = .ok (.imul, 1) := dw_104 wX10_number_c rfl
theorem dX10_number_89 : decode cX10_number 89 = .ok (.aload_n 0, 1) := dw_42 wX10_number_c rfl
theorem dX10_number_90 : decode cX10_number 90 = .ok (.getfield 22, 3) := dw_180 wX10_number_c 0 22 rfl rfl
theorem dX10_number_93 : decode cX10_number 93 = .ok (.aload_n 0, 1) := dw_42 wX10_number_c rfl
theorem dX10_number_94 : decode cX10_number 94 = .ok (.getfield 245, 3) := dw_180 wX10_number_c 0 245 rfl rfl
theorem dX10_number_97 : decode cX10_number 97 = .ok (.baload, 1) := dw_51 wX10_number_c rfl
theorem dX10_number_98 : decode cX10_number 98 = .ok (.iadd, 1) := dw_96 wX10_number_c rfl
theorem dX10_number_99 : decode cX10_number 99 = .ok (.bipush 48, 2) := dw_16 wX10_number_c 48 rfl rfl rfl
theorem dX10_number_101 : decode cX10_number 101 = .ok (.isub, 1) := dw_100 wX10_number_c rfl
theorem dX10_number_102 : decode cX10_number 102 = .ok (.istore 6, 2) := dw_54 wX10_number_c 6 rfl
theorem dX10_number_104 : decode cX10_number 104 = .ok (.iinc 5 1, 3) := dw_132 wX10_number_c 5 1 rfl rfl rfl
theorem dX10_number_107 : decode cX10_number 107 = .ok (.aload_n 0, 1) := dw_42 wX10_number_c rfl
theorem dX10_number_108 : decode cX10_number 108 = .ok (.dup, 1) := dw_89 wX10_number_c rfl
theorem dX10_number_109 : decode cX10_number 109 = .ok (.getfield 245, 3) := dw_180 wX10_number_c 0 245 rfl rfl
theorem dX10_number_112 : decode cX10_number 112 = .ok (.iconst 1, 1) := dw_4 wX10_number_c rfl
theorem dX10_number_113 : decode cX10_number 113 = .ok (.iadd, 1) := dw_96 wX10_number_c rfl
theorem dX10_number_114 : decode cX10_number 114 = .ok (.putfield 245, 3) := dw_181 wX10_number_c 0 245 rfl rfl
theorem dX10_number_117 : decode cX10_number 117 = .ok (.goto (-78), 3) := dn_167 wX10_number_c 255 178 rfl (by decide)
theorem dX10_number_120 : decode cX10_number 120 = .ok (.aload_n 0, 1) := dw_42 wX10_number_c rfl
theorem dX10_number_121 : decode cX10_number 121 = .ok (.iload 6, 2) := dw_21 wX10_number_c 6 rfl
theorem dX10_number_123 : decode cX10_number 123 = .ok (.putfield 259, 3) := dw_181 wX10_number_c 1 3 rfl rfl
theorem dX10_number_126 : decode cX10_number 126 = .ok (.iload 5, 2) := dw_21 wX10_number_c 5 rfl
theorem dX10_number_128 : decode cX10_number 128 = .ok (.iconst 4, 1) := dw_7 wX10_number_c rfl
theorem dX10_number_129 : decode cX10_number 129 = .ok (.if_icmp .gt 13, 3) := dw_163 wX10_number_c 0 13 rfl rfl rfl
theorem dX10_number_132 : decode cX10_number 132 = .ok (.iload 6, 2) := dw_21 wX10_number_c 6 rfl
theorem dX10_number_134 : decode cX10_number 134 = .ok (.iload_n 1, 1) := dw_27 wX10_number_c rfl
theorem dX10_number_135 : decode cX10_number 135 = .ok (.iload_n 2, 1) := dw_28 wX10_number_c rfl
theorem dX10_number_136 : decode cX10_number 136 = .ok (.invokestatic 228, 3) := dw_184 wX10_number_c 0 228 rfl rfl
theorem dX10_number_139 : decode cX10_number 139 = .ok (.ifCond .ne 13, 3) := dw_154 wX10_number_c 0 13 rfl rfl rfl
theorem dX10_number_142 : decode cX10_number 142 = .ok (.aload_n 0, 1) := dw_42 wX10_number_c rfl
theorem dX10_number_143 : decode cX10_number 143 = .ok (.iconst 1, 1) := dw_4 wX10_number_c rfl
theorem dX10_number_144 : decode cX10_number 144 = .ok (.iload 4, 2) := dw_21 wX10_number_c 4 rfl
theorem dX10_number_146 : decode cX10_number 146 = .ok (.invokevirtual 255, 3) := dw_182 wX10_number_c 0 255 rfl rfl
theorem dX10_number_149 : decode cX10_number 149 = .ok (.ifCond .eq 7, 3) := dw_153 wX10_number_c 0 7 rfl rfl rfl
theorem dX10_number_152 : decode cX10_number 152 = .ok (.iconst 1, 1) := dw_4 wX10_number_c rfl
theorem dX10_number_153 : decode cX10_number 153 = .ok (.goto 4, 3) := dw_167 wX10_number_c 0 4 rfl rfl rfl
theorem dX10_number_156 : decode cX10_number 156 = .ok (.iconst 0, 1) := dw_3 wX10_number_c rfl
theorem dX10_number_157 : decode cX10_number 157 = .ok (.ireturn, 1) := dw_172 wX10_number_c rfl
theorem dX10_compareOf_0 : decode cX10_compareOf 0 = .ok (.ldc_w 268, 3) := by decide +kernel
theorem dX10_compareOf_3 : decode cX10_compareOf 3 = .ok (.iconst 1, 1) := by decide +kernel
theorem dX10_compareOf_4 : decode cX10_compareOf 4 = .ok (.iload_n 0, 1) := by decide +kernel
theorem dX10_compareOf_5 : decode cX10_compareOf 5 = .ok (.iadd, 1) := by decide +kernel
theorem dX10_compareOf_6 : decode cX10_compareOf 6 = .ok (.imul, 1) := by decide +kernel
theorem dX10_compareOf_7 : decode cX10_compareOf 7 = .ok (.ldc_w 269, 3) := by decide +kernel
theorem dX10_compareOf_10 : decode cX10_compareOf 10 = .ok (.iload_n 1, 1) := by decide +kernel
theorem dX10_compareOf_11 : decode cX10_compareOf 11 = .ok (.imul, 1) := by decide +kernel
theorem dX10_compareOf_12 : decode cX10_compareOf 12 = .ok (.iadd, 1) := by decide +kernel
theorem dX10_compareOf_13 : decode cX10_compareOf 13 = .ok (.iload_n 2, 1) := by decide +kernel
theorem dX10_compareOf_14 : decode cX10_compareOf 14 = .ok (.iadd, 1) := by decide +kernel
theorem dX10_compareOf_15 : decode cX10_compareOf 15 = .ok (.ireturn, 1) := by decide +kernel
theorem dX10_writes_0 : decode cX10_writes 0 = .ok (.aload_n 0, 1) := by decide +kernel
theorem dX10_writes_1 : decode cX10_writes 1 = .ok (.getfield 29, 3) := by decide +kernel
theorem dX10_writes_4 : decode cX10_writes 4 = .ok (.aload_n 0, 1) := by decide +kernel
theorem dX10_writes_5 : decode cX10_writes 5 = .ok (.getfield 262, 3) := by decide +kernel
theorem dX10_writes_8 : decode cX10_writes 8 = .ok (.iload_n 1, 1) := by decide +kernel
theorem dX10_writes_9 : decode cX10_writes 9 = .ok (.iastore, 1) := by decide +kernel
theorem dX10_writes_10 : decode cX10_writes 10 = .ok (.aload_n 0, 1) := by decide +kernel
theorem dX10_writes_11 : decode cX10_writes 11 = .ok (.dup, 1) := by decide +kernel
theorem dX10_writes_12 : decode cX10_writes 12 = .ok (.getfield 262, 3) := by decide +kernel
theorem dX10_writes_15 : decode cX10_writes 15 = .ok (.iconst 1, 1) := by decide +kernel
theorem dX10_writes_16 : decode cX10_writes 16 = .ok (.iadd, 1) := by decide +kernel
theorem dX10_writes_17 : decode cX10_writes 17 = .ok (.putfield 262, 3) := by decide +kernel
theorem dX10_writes_20 : decode cX10_writes 20 = .ok (.return_, 1) := by decide +kernel
set_option maxHeartbeats 4000000 in
set_option maxRecDepth 100000 in
theorem t_X10_writes (l : Launch) (dC : Nat → ClassId) (dI : Nat → Nat → Nat) (dA : Nat → ClassId) (L : List Nat) (h : hx_h) (sz : Nat) (x : Nat) (i1 : Int32) (hT : hx_T T_tb L h) (gx : hx_g L h x 10) (qs : Nat) (gqs : hx_g L h qs 55) (f_x_15 : h.2.2 x 15 = some qs) (sf : Nat → Int32) (af_qs : h.2.1 qs = sf) (st0 : Int32) (f_x_14 : h.2.1 x 14 = st0) (hst : st0.toInt ≤ 127) : Met l yX10_writes (Cond.code yX10_writes cX10_writes 2 none :: hx_all) ({ frames := 0, cells := 0, slots := 0, locals := 0 }) (va_Pc [.ref x, .int i1] (hx_B T_tb (P_ty dA) (dC, dI) vwCl L h sz)) (va_Qv (fun (u : List Nat × hx_h) => (∃ (st1 : Int32) (sf1 : Nat → Int32), u.2.2.1 x 14 = st1 ∧ u.2.2.1 qs = sf1 ∧ (st1.toInt = st0.toInt + 1 ∧ sf1 = hx_up sf st0.toNatClampNeg i1)) ∧ hx_T T_tb u.1 u.2 ∧ hx_S T_tb [(10, 14), (55, 0)] L h u.1 u.2) (hx_E T_tb (P_ty dA) (dC, dI) vwCl (hx_A L sz)) (hx_A L sz)) 0 0 (hx_A L sz) := by
  refine hx_met (lv := [(0, .ref x), (1, .int i1)]) (by decide +kernel) rfl (Nat.le_of_ble_eq_true rfl) rfl ?_
  intro p e s m below meth c hx hb hml hr hlk hts0 hown hin hsz hW ls hl
  have hts : ∀ w ∈ hx_all, w.before _ s = true := fun w hw => hts0 w (List.mem_cons_of_mem _ hw)
  have hown : s.vm.findClass "SmallCourtModel" = some m.cls := hown
  have hM : hx_S T_tb [(10, 14), (55, 0)] L h L h := hx_S.rf
  have b_st0 := hT.gi gx tt_10 (k := 14) rfl
  rw [f_x_14] at b_st0
  have b_st0 : 0 ≤ st0.toInt ∧ st0.toInt ≤ 128 := b_st0
  refine lv_aload_n hx hb dX10_writes_0 rfl (lv_at hl 0 rfl) ?_
  refine hk_getr hx hb hts hC_10 hown hW (gx.S hM) tt_10 15 (by decide) rfl kw_1158 ⟨rfl, rfl, rfl⟩ ((hM.o gx trivial rfl).2.trans f_x_15) dX10_writes_1 ?_
  refine lv_aload_n hx hb dX10_writes_4 rfl (lv_at hl 0 rfl) ?_
  refine hk_geti hx hb hts hC_10 hown hW (gx.S hM) tt_10 14 (by decide) rfl kw_1157 ⟨rfl, rfl, rfl⟩ f_x_14 dX10_writes_5 ?_
  refine lv_iload_n hx hb dX10_writes_8 rfl (lv_at hl 1 rfl) ?_
  have af_qsO := af_qs
  refine hx_iast hx hb hW hT (hx_S.rf (M := [(55, 0)])) (gqs.S hM) tt_55 rfl ⟨by omega, by omega⟩ rfl (i32_r _) (List.mem_singleton.mpr rfl) dX10_writes_9 (fun H locs h_1 eh_1 hW hT hs => ?_)
  replace f_x_14 := (hs.o (gx.S hM) trivial rfl).1.trans f_x_14
  replace hM := hM.tr (hs.mono (by decide))
  obtain ⟨fa_2, dfa_2⟩ : ∃ g : Nat → Int32, g = hx_up sf st0.toNatClampNeg i1 := ⟨_, rfl⟩
  have nfa_2 : h_1.2.1 qs = fa_2 := by rw [eh_1, dfa_2, ← af_qsO]; exact hx_pi_fun _ _ _ _
  refine lv_aload_n hx hb dX10_writes_10 rfl (lv_at hl 0 rfl) ?_
  refine lv_dup hx hb dX10_writes_11 rfl ?_
  refine hk_geti hx hb hts hC_10 hown hW (gx.S hM) tt_10 14 (by decide) rfl kw_1157 ⟨rfl, rfl, rfl⟩ f_x_14 dX10_writes_12 ?_
  refine lv_iconst (v := 1) hx hb dX10_writes_15 (by decide) ?_
  refine lv_iadd hx hb dX10_writes_16 ?_
  have rg_3 := i32_r st0
  refine lv_topi (fun x_4 ex_4 => ?_)
  have zx_4 : x_4.toInt = st0.toInt + 1 := by rw [ex_4]; exact i32_add rfl (by decide) (by omega) (by omega)
  refine hx_puti hx hb hts hC_10 hown hW hT (hx_S.rf (M := [(10, 14)])) (gx.S hM) tt_10 14 (by decide) rfl kw_1157 ⟨rfl, rfl, rfl⟩ rfl (x := x_4) ⟨by omega, by omega⟩ rfl rfl rfl (List.mem_singleton.mpr rfl) dX10_writes_17 (fun H locs h_5 eh_5 hW hT hs => ?_)
  replace nfa_2 : h_5.2.1 qs = fa_2 := (funext fun j => (hs.a (gqs.S hM) rfl j).1).trans nfa_2
  replace hM := hM.tr (hs.mono (by decide))
  have f_6 : h_5.2.1 x 14 = x_4 := by rw [eh_5]; exact hx_pi_at _ _ _ _
  exact hx_retv hx hb hr hlk hW ⟨⟨x_4, fa_2, f_6, nfa_2, ⟨by omega, dfa_2⟩⟩, hT, hM⟩ dX10_writes_20
