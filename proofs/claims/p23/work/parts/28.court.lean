def wNX9_hear : Nat := 1076197888589452097072378502574154629288040183240453855028010337470796030708443713114909455789954857568836588605385724195074896485600502493719640697290272823049599878085511109295705424314258871871965659450158539520381322777573771889388221100832777797342636671065000713477494353180229490304114710604304968169821074738097612895699138307178590155994599242904062722154998618230198129218212454377964720131124965905703919240830221581343679640643240973561808385235181592763143139869113139400218671129499670370351708275802708801845413648065289418781905910385942165611363795474415590662523460394
theorem wX9_hear_c : hz_cd cX9_hear wNX9_hear 243 := ⟨by decide +kernel, by decide +kernel⟩
theorem dX9_hear_0 : decode cX9_hear 0 = .ok (.aload_n 0, 1) := dw_42 wX9_hear_c rfl
theorem dX9_hear_1 : decode cX9_hear 1 = .ok (.iload_n 1, 1) := dw_27 wX9_hear_c rfl
theorem dX9_hear_2 : decode cX9_hear 2 = .ok (.invokevirtual 200, 3) := dw_182 wX9_hear_c 0 200 rfl rfl
theorem dX9_hear_5 : decode cX9_hear 5 = .ok (.astore 5, 2) := dw_58 wX9_hear_c 5 rfl
theorem dX9_hear_7 : decode cX9_hear 7 = .ok (.aload 5, 2) := dw_25 wX9_hear_c 5 rfl
theorem dX9_hear_9 : decode cX9_hear 9 = .ok (.ifnull 57, 3) := dw_198 wX9_hear_c 0 57 rfl rfl rfl
theorem dX9_hear_12 : decode cX9_hear 12 = .ok (.aload 5, 2) := dw_25 wX9_hear_c 5 rfl
theorem dX9_hear_14 : decode cX9_hear 14 = .ok (.getfield 204, 3) := dw_180 wX9_hear_c 0 204 rfl rfl
theorem dX9_hear_17 : decode cX9_hear 17 = .ok (.iconst (-1), 1) := dw_2 wX9_hear_c rfl
theorem dX9_hear_18 : decode cX9_hear 18 = .ok (.if_icmp .eq 48, 3) := dw_159 wX9_hear_c 0 48 rfl rfl rfl
theorem dX9_hear_21 : decode cX9_hear 21 = .ok (.aload 5, 2) := dw_25 wX9_hear_c 5 rfl
theorem dX9_hear_23 : decode cX9_hear 23 = .ok (.getfield 210, 3) := dw_180 wX9_hear_c 0 210 rfl rfl
theorem dX9_hear_26 : decode cX9_hear 26 = .ok (.iconst (-1), 1) := dw_2 wX9_hear_c rfl
theorem dX9_hear_27 : decode cX9_hear 27 = .ok (.if_icmp .ne 39, 3) := dw_160 wX9_hear_c 0 39 rfl rfl rfl
theorem dX9_hear_30 : decode cX9_hear 30 = .ok (.aload 5, 2) := dw_25 wX9_hear_c 5 rfl
theorem dX9_hear_32 : decode cX9_hear 32 = .ok (.getfield 212, 3) := dw_180 wX9_hear_c 0 212 rfl rfl
theorem dX9_hear_35 : decode cX9_hear 35 = .ok (.getfield 148, 3) := dw_180 wX9_hear_c 0 148 rfl rfl
theorem dX9_hear_38 : decode cX9_hear 38 = .ok (.ifCond .ne 28, 3) := dw_154 wX9_hear_c 0 28 rfl rfl rfl
theorem dX9_hear_41 : decode cX9_hear 41 = .ok (.iload 4, 2) := dw_21 wX9_hear_c 4 rfl
theorem dX9_hear_43 : decode cX9_hear 43 = .ok (.ifCond .lt 23, 3) := dw_155 wX9_hear_c 0 23 rfl rfl rfl
theorem dX9_hear_46 : decode cX9_hear 46 = .ok (.aload_n 0, 1) := dw_42 wX9_hear_c rfl
theorem dX9_hear_47 : decode cX9_hear 47 = .ok (.getfield 216, 3) := dw_180 wX9_hear_c 0 216 rfl rfl
theorem dX9_hear_50 : decode cX9_hear 50 = .ok (.bipush 100, 2) := dw_16 wX9_hear_c 100 rfl rfl rfl
theorem dX9_hear_52 : decode cX9_hear 52 = .ok (.if_icmp .ge 14, 3) := dw_162 wX9_hear_c 0 14 rfl rfl rfl
theorem dX9_hear_55 : decode cX9_hear 55 = .ok (.aload_n 0, 1) := dw_42 wX9_hear_c rfl
theorem dX9_hear_56 : decode cX9_hear 56 = .ok (.aload 5, 2) := dw_25 wX9_hear_c 5 rfl
theorem dX9_hear_58 : decode cX9_hear 58 = .ok (.iload 4, 2) := dw_21 wX9_hear_c 4 rfl
theorem dX9_hear_60 : decode cX9_hear 60 = .ok (.invokevirtual 219, 3) := dw_182 wX9_hear_c 0 219 rfl rfl
theorem dX9_hear_63 : decode cX9_hear 63 = .ok (.ifCond .ne 5, 3) := dw_154 wX9_hear_c 0 5 rfl rfl rfl
theorem dX9_hear_66 : decode cX9_hear 66 = .ok (.iconst (-1), 1) := dw_2 wX9_hear_c rfl
theorem dX9_hear_67 : decode cX9_hear 67 = .ok (.ireturn, 1) := dw_172 wX9_hear_c rfl
theorem dX9_hear_68 : decode cX9_hear 68 = .ok (.aload 5, 2) := dw_25 wX9_hear_c 5 rfl
theorem dX9_hear_70 : decode cX9_hear 70 = .ok (.getfield 223, 3) := dw_180 wX9_hear_c 0 223 rfl rfl
theorem dX9_hear_73 : decode cX9_hear 73 = .ok (.getfield 143, 3) := dw_180 wX9_hear_c 0 143 rfl rfl
theorem dX9_hear_76 : decode cX9_hear 76 = .ok (.istore 6, 2) := dw_54 wX9_hear_c 6 rfl
theorem dX9_hear_78 : decode cX9_hear 78 = .ok (.aload 5, 2) := dw_25 wX9_hear_c 5 rfl
theorem dX9_hear_80 : decode cX9_hear 80 = .ok (.getfield 212, 3) := dw_180 wX9_hear_c 0 212 rfl rfl
theorem dX9_hear_83 : decode cX9_hear 83 = .ok (.getfield 143, 3) := dw_180 wX9_hear_c 0 143 rfl rfl
theorem dX9_hear_86 : decode cX9_hear 86 = .ok (.istore 7, 2) := dw_54 wX9_hear_c 7 rfl
theorem dX9_hear_88 : decode cX9_hear 88 = .ok (.aload 5, 2) := dw_25 wX9_hear_c 5 rfl
theorem dX9_hear_90 : decode cX9_hear 90 = .ok (.getfield 196, 3) := dw_180 wX9_hear_c 0 196 rfl rfl
theorem dX9_hear_93 : decode cX9_hear 93 = .ok (.iconst 0, 1) := dw_3 wX9_hear_c rfl
theorem dX9_hear_94 : decode cX9_hear 94 = .ok (.iload_n 2, 1) := dw_28 wX9_hear_c rfl
theorem dX9_hear_95 : decode cX9_hear 95 = .ok (.ifCond .eq 7, 3) := dw_153 wX9_hear_c 0 7 rfl rfl rfl
theorem dX9_hear_98 : decode cX9_hear 98 = .ok (.iconst 1, 1) := dw_4 wX9_hear_c rfl
theorem dX9_hear_99 : decode cX9_hear 99 = .ok (.goto 4, 3) := dw_167 wX9_hear_c 0 4 rfl rfl rfl
theorem dX9_hear_102 : decode cX9_hear 102 = .ok (.iconst 0, 1) := dw_3 wX9_hear_c rfl
theorem dX9_hear_103 : decode cX9_hear 103 = .ok (.iastore, 1) := dw_79 wX9_hear_c rfl
theorem dX9_hear_104 : decode cX9_hear 104 = .ok (.aload 5, 2) := dw_25 wX9_hear_c 5 rfl
theorem dX9_hear_106 : decode cX9_hear 106 = .ok (.getfield 196, 3) := dw_180 wX9_hear_c 0 196 rfl rfl
theorem dX9_hear_109 : decode cX9_hear 109 = .ok (.iconst 1, 1) := dw_4 wX9_hear_c rfl
theorem dX9_hear_110 : decode cX9_hear 110 = .ok (.iload_n 3, 1) := dw_29 wX9_hear_c rfl
theorem dX9_hear_111 : decode cX9_hear 111 = .ok (.ifCond .eq 7, 3) := dw_153 wX9_hear_c 0 7 rfl rfl rfl
theorem dX9_hear_114 : decode cX9_hear 114 = .ok (.iconst 1, 1) := dw_4 wX9_hear_c rfl
theorem dX9_hear_115 : decode cX9_hear 115 = .ok (.goto 4, 3) := dw_167 wX9_hear_c 0 4 rfl rfl rfl
theorem dX9_hear_118 : decode cX9_hear 118 = .ok (.iconst 0, 1) := dw_3 wX9_hear_c rfl
theorem dX9_hear_119 : decode cX9_hear 119 = .ok (.iastore, 1) := dw_79 wX9_hear_c rfl
theorem dX9_hear_120 : decode cX9_hear 120 = .ok (.aload 5, 2) := dw_25 wX9_hear_c 5 rfl
theorem dX9_hear_122 : decode cX9_hear 122 = .ok (.getfield 196, 3) := dw_180 wX9_hear_c 0 196 rfl rfl
theorem dX9_hear_125 : decode cX9_hear 125 = .ok (.iconst 4, 1) := dw_7 wX9_hear_c rfl
theorem dX9_hear_126 : decode cX9_hear 126 = .ok (.aload_n 0, 1) := dw_42 wX9_hear_c rfl
theorem dX9_hear_127 : decode cX9_hear 127 = .ok (.getfield 42, 3) := dw_180 wX9_hear_c 0 42 rfl rfl
theorem dX9_hear_130 : decode cX9_hear 130 = .ok (.iload 6, 2) := dw_21 wX9_hear_c 6 rfl
theorem dX9_hear_132 : decode cX9_hear 132 = .ok (.iload 7, 2) := dw_21 wX9_hear_c 7 rfl
theorem dX9_hear_134 : decode cX9_hear 134 = .ok (.aload 5, 2) := dw_25 wX9_hear_c 5 rfl
theorem dX9_hear_136 : decode cX9_hear 136 = .ok (.getfield 193, 3) := dw_180 wX9_hear_c 0 193 rfl rfl
theorem dX9_hear_139 : decode cX9_hear 139 = .ok (.invokevirtual 170, 3) := dw_182 wX9_hear_c 0 170 rfl rfl
theorem dX9_hear_142 : decode cX9_hear 142 = .ok (.iastore, 1) := dw_79 wX9_hear_c rfl
theorem dX9_hear_143 : decode cX9_hear 143 = .ok (.aload 5, 2) := dw_25 wX9_hear_c 5 rfl
theorem dX9_hear_145 : decode cX9_hear 145 = .ok (.getfield 196, 3) := dw_180 wX9_hear_c 0 196 rfl rfl
theorem dX9_hear_148 : decode cX9_hear 148 = .ok (.iconst 5, 1) := dw_8 wX9_hear_c rfl
theorem dX9_hear_149 : decode cX9_hear 149 = .ok (.aload_n 0, 1) := dw_42 wX9_hear_c rfl
theorem dX9_hear_150 : decode cX9_hear 150 = .ok (.getfield 42, 3) := dw_180 wX9_hear_c 0 42 rfl rfl
theorem dX9_hear_153 : decode cX9_hear 153 = .ok (.iload 7, 2) := dw_21 wX9_hear_c 7 rfl
theorem dX9_hear_155 : decode cX9_hear 155 = .ok (.iload 6, 2) := dw_21 wX9_hear_c 6 rfl
theorem dX9_hear_157 : decode cX9_hear 157 = .ok (.aload 5, 2) := dw_25 wX9_hear_c 5 rfl
theorem dX9_hear_159 : decode cX9_hear 159 = .ok (.getfield 193, 3) := dw_180 wX9_hear_c 0 193 rfl rfl
theorem dX9_hear_162 : decode cX9_hear 162 = .ok (.invokevirtual 170, 3) := dw_182 wX9_hear_c 0 170 rfl rfl
theorem dX9_hear_165 : decode cX9_hear 165 = .ok (.ineg, 1) := dw_116 wX9_hear_c rfl
theorem dX9_hear_166 : decode cX9_hear 166 = .ok (.iastore, 1) := dw_79 wX9_hear_c rfl
theorem dX9_hear_167 : decode cX9_hear 167 = .ok (.aload 5, 2) := dw_25 wX9_hear_c 5 rfl
theorem dX9_hear_169 : decode cX9_hear 169 = .ok (.getfield 196, 3) := dw_180 wX9_hear_c 0 196 rfl rfl
theorem dX9_hear_172 : decode cX9_hear 172 = .ok (.bipush 6, 2) := dw_16 wX9_hear_c 6 rfl rfl rfl
theorem dX9_hear_174 : decode cX9_hear 174 = .ok (.aload_n 0, 1) := dw_42 wX9_hear_c rfl
theorem dX9_hear_175 : decode cX9_hear 175 = .ok (.getfield 42, 3) := dw_180 wX9_hear_c 0 42 rfl rfl
theorem dX9_hear_178 : decode cX9_hear 178 = .ok (.iload 6, 2) := dw_21 wX9_hear_c 6 rfl
theorem dX9_hear_180 : decode cX9_hear 180 = .ok (.iload 7, 2) := dw_21 wX9_hear_c 7 rfl
theorem dX9_hear_182 : decode cX9_hear 182 = .ok (.aload 5, 2) := dw_25 wX9_hear_c 5 rfl
theorem dX9_hear_184 : decode cX9_hear 184 = .ok (.getfield 193, 3) := dw_180 wX9_hear_c 0 193 rfl rfl
theorem dX9_hear_187 : decode cX9_hear 187 = .ok (.invokevirtual 174, 3) := dw_182 wX9_hear_c 0 174 rfl rfl
theorem dX9_hear_190 : decode cX9_hear 190 = .ok (.iastore, 1) := dw_79 wX9_hear_c rfl
theorem dX9_hear_191 : decode cX9_hear 191 = .ok (.aload 5, 2) := dw_25 wX9_hear_c 5 rfl
theorem dX9_hear_193 : decode cX9_hear 193 = .ok (.aload_n 0, 1) := dw_42 wX9_hear_c rfl
theorem dX9_hear_194 : decode cX9_hear 194 = .ok (.getfield 94, 3) := dw_180 wX9_hear_c 0 94 rfl rfl
theorem dX9_hear_197 : decode cX9_hear 197 = .ok (.putfield 210, 3) := dw_181 wX9_hear_c 0 210 rfl rfl
theorem dX9_hear_200 : decode cX9_hear 200 = .ok (.aload 5, 2) := dw_25 wX9_hear_c 5 rfl
theorem dX9_hear_202 : decode cX9_hear 202 = .ok (.aload_n 0, 1) := dw_42 wX9_hear_c rfl
theorem dX9_hear_203 : decode cX9_hear 203 = .ok (.aload 5, 2) := dw_25 wX9_hear_c 5 rfl
theorem dX9_hear_205 : decode cX9_hear 205 = .ok (.aload 5, 2) := dw_25 wX9_hear_c 5 rfl
theorem dX9_hear_207 : decode cX9_hear 207 = .ok (.getfield 226, 3) := dw_180 wX9_hear_c 0 226 rfl rfl
theorem dX9_hear_210 : decode cX9_hear 210 = .ok (.invokevirtual 229, 3) := dw_182 wX9_hear_c 0 229 rfl rfl
theorem dX9_hear_213 : decode cX9_hear 213 = .ok (.putfield 233, 3) := dw_181 wX9_hear_c 0 233 rfl rfl
theorem dX9_hear_216 : decode cX9_hear 216 = .ok (.aload_n 0, 1) := dw_42 wX9_hear_c rfl
theorem dX9_hear_217 : decode cX9_hear 217 = .ok (.getfield 52, 3) := dw_180 wX9_hear_c 0 52 rfl rfl
theorem dX9_hear_220 : decode cX9_hear 220 = .ok (.aload_n 0, 1) := dw_42 wX9_hear_c rfl
theorem dX9_hear_221 : decode cX9_hear 221 = .ok (.getfield 216, 3) := dw_180 wX9_hear_c 0 216 rfl rfl
theorem dX9_hear_224 : decode cX9_hear 224 = .ok (.aload 5, 2) := dw_25 wX9_hear_c 5 rfl
theorem dX9_hear_226 : decode cX9_hear 226 = .ok (.aastore, 1) := dw_83 wX9_hear_c rfl
theorem dX9_hear_227 : decode cX9_hear 227 = .ok (.aload_n 0, 1) := dw_42 wX9_hear_c rfl
theorem dX9_hear_228 : decode cX9_hear 228 = .ok (.dup, 1) := dw_89 wX9_hear_c rfl
theorem dX9_hear_229 : decode cX9_hear 229 = .ok (.getfield 216, 3) := dw_180 wX9_hear_c 0 216 rfl rfl
theorem dX9_hear_232 : decode cX9_hear 232 = .ok (.iconst 1, 1) := dw_4 wX9_hear_c rfl
theorem dX9_hear_233 : decode cX9_hear 233 = .ok (.iadd, 1) := dw_96 wX9_hear_c rfl
theorem dX9_hear_234 : decode cX9_hear 234 = .ok (.putfield 216, 3) := dw_181 wX9_hear_c 0 216 rfl rfl
theorem dX9_hear_237 : decode cX9_hear 237 = .ok (.aload 5, 2) := dw_25 wX9_hear_c 5 rfl
theorem dX9_hear_239 : decode cX9_hear 239 = .ok (.getfield 233, 3) := dw_180 wX9_hear_c 0 233 rfl rfl
theorem dX9_hear_242 : decode cX9_hear 242 = .ok (.ireturn, 1) := dw_172 wX9_hear_c rfl
def wNX9_isBeyondDoubt : Nat := 2306300905568338808749083372776410577772263442645137863403636072158270992707115813706546286943169582762554812597349012242040264406303058368540187673248809225
theorem wX9_isBeyondDoubt_c : hz_cd cX9_isBeyondDoubt wNX9_isBeyondDoubt 65 := ⟨by decide +kernel, by decide +kernel⟩
theorem dX9_isBeyondDoubt_0 : decode cX9_isBeyondDoubt 0 = .ok (.lconst 0, 1) := dw_9 wX9_isBeyondDoubt_c rfl
theorem dX9_isBeyondDoubt_1 : decode cX9_isBeyondDoubt 1 = .ok (.lstore_n 2, 1) := dw_65 wX9_isBeyondDoubt_c rfl
theorem dX9_isBeyondDoubt_2 : decode cX9_isBeyondDoubt 2 = .ok (.lconst 1, 1) := dw_10 wX9_isBeyondDoubt_c rfl
theorem dX9_isBeyondDoubt_3 : decode cX9_isBeyondDoubt 3 = .ok (.lstore 4, 2) := dw_55 wX9_isBeyondDoubt_c 4 rfl
theorem dX9_isBeyondDoubt_5 : decode cX9_isBeyondDoubt 5 = .ok (.iconst 0, 1) := dw_3 wX9_isBeyondDoubt_c rfl
theorem dX9_isBeyondDoubt_6 : decode cX9_isBeyondDoubt 6 = .ok (.istore 6, 2) := dw_54 wX9_isBeyondDoubt_c 6 rfl
theorem dX9_isBeyondDoubt_8 : decode cX9_isBeyondDoubt 8 = .ok (.iload 6, 2) := dw_21 wX9_isBeyondDoubt_c 6 rfl
theorem dX9_isBeyondDoubt_10 : decode cX9_isBeyondDoubt 10 = .ok (.iload_n 0, 1) := dw_26 wX9_isBeyondDoubt_c rfl
theorem dX9_isBeyondDoubt_11 : decode cX9_isBeyondDoubt 11 = .ok (.if_icmp .gt 36, 3) := dw_163 wX9_isBeyondDoubt_c 0 36 rfl rfl rfl
theorem dX9_isBeyondDoubt_14 : decode cX9_isBeyondDoubt 14 = .ok (.iload 6, 2) := dw_21 wX9_isBeyondDoubt_c 6 rfl
theorem dX9_isBeyondDoubt_16 : decode cX9_isBeyondDoubt 16 = .ok (.iload_n 1, 1) := dw_27 wX9_isBeyondDoubt_c rfl
theorem dX9_isBeyondDoubt_17 : decode cX9_isBeyondDoubt 17 = .ok (.if_icmp .lt 8, 3) := dw_161 wX9_isBeyondDoubt_c 0 8 rfl rfl rfl
theorem dX9_isBeyondDoubt_20 : decode cX9_isBeyondDoubt 20 = .ok (.lload_n 2, 1) := dw_32 wX9_isBeyondDoubt_c rfl
theorem dX9_isBeyondDoubt_21 : decode cX9_isBeyondDoubt 21 = .ok (.lload 4, 2) := dw_22 wX9_isBeyondDoubt_c 4 rfl
theorem dX9_isBeyondDoubt_23 : decode cX9_isBeyondDoubt 23 = .ok (.ladd, 1) := dw_97 wX9_isBeyondDoubt_c rfl
theorem dX9_isBeyondDoubt_24 : decode cX9_isBeyondDoubt 24 = .ok (.lstore_n 2, 1) := dw_65 wX9_isBeyondDoubt_c rfl
theorem dX9_isBeyondDoubt_25 : decode cX9_isBeyondDoubt 25 = .ok (.lload 4, 2) := dw_22 wX9_isBeyondDoubt_c 4 rfl
theorem dX9_isBeyondDoubt_27 : decode cX9_isBeyondDoubt 27 = .ok (.iload_n 0, 1) := dw_26 wX9_isBeyondDoubt_c rfl
theorem dX9_isBeyondDoubt_28 : decode cX9_isBeyondDoubt 28 = .ok (.iload 6, 2) := dw_21 wX9_isBeyondDoubt_c 6 rfl
theorem dX9_isBeyondDoubt_30 : decode cX9_isBeyondDoubt 30 = .ok (.isub, 1) := dw_100 wX9_isBeyondDoubt_c rfl
theorem dX9_isBeyondDoubt_31 : decode cX9_isBeyondDoubt 31 = .ok (.i2l, 1) := dw_133 wX9_isBeyondDoubt_c rfl
theorem dX9_isBeyondDoubt_32 : decode cX9_isBeyondDoubt 32 = .ok (.lmul, 1) := dw_105 wX9_isBeyondDoubt_c rfl
theorem dX9_isBeyondDoubt_33 : decode cX9_isBeyondDoubt 33 = .ok (.iload 6, 2) := dw_21 wX9_isBeyondDoubt_c 6 rfl
theorem dX9_isBeyondDoubt_35 : decode cX9_isBeyondDoubt 35 = .ok (.iconst 1, 1) := dw_4 wX9_isBeyondDoubt_c rfl
theorem dX9_isBeyondDoubt_36 : decode cX9_isBeyondDoubt 36 = .ok (.iadd, 1) := dw_96 wX9_isBeyondDoubt_c rfl
theorem dX9_isBeyondDoubt_37 : decode cX9_isBeyondDoubt 37 = .ok (.i2l, 1) := dw_133 wX9_isBeyondDoubt_c rfl
theorem dX9_isBeyondDoubt_38 : decode cX9_isBeyondDoubt 38 = .ok (.ldiv, 1) := dw_109 wX9_isBeyondDoubt_c rfl
theorem dX9_isBeyondDoubt_39 : decode cX9_isBeyondDoubt 39 = .ok (.lstore 4, 2) := dw_55 wX9_isBeyondDoubt_c 4 rfl
theorem dX9_isBeyondDoubt_41 : decode cX9_isBeyondDoubt 41 = .ok (.iinc 6 1, 3) := dw_132 wX9_isBeyondDoubt_c 6 1 rfl rfl rfl
theorem dX9_isBeyondDoubt_44 : decode cX9_isBeyondDoubt 44 = .ok (.goto (-36), 3) := dn_167 wX9_isBeyondDoubt_c 255 220 rfl (by decide)
theorem dX9_isBeyondDoubt_47 : decode cX9_isBeyondDoubt 47 = .ok (.lload_n 2, 1) := dw_32 wX9_isBeyondDoubt_c rfl
theorem dX9_isBeyondDoubt_48 : decode cX9_isBeyondDoubt 48 = .ok (.lconst 1, 1) := dw_10 wX9_isBeyondDoubt_c rfl
theorem dX9_isBeyondDoubt_49 : decode cX9_isBeyondDoubt 49 = .ok (.iload_n 0, 1) := dw_26 wX9_isBeyondDoubt_c rfl
theorem dX9_isBeyondDoubt_50 : decode cX9_isBeyondDoubt 50 = .ok (.lshl, 1) := dw_121 wX9_isBeyondDoubt_c rfl
theorem dX9_isBeyondDoubt_51 : decode cX9_isBeyondDoubt 51 = .ok (.ldc2_w 403, 3) := dw_20 wX9_isBeyondDoubt_c 1 147 rfl rfl
theorem dX9_isBeyondDoubt_54 : decode cX9_isBeyondDoubt 54 = .ok (.ldiv, 1) := dw_109 wX9_isBeyondDoubt_c rfl
theorem dX9_isBeyondDoubt_55 : decode cX9_isBeyondDoubt 55 = .ok (.lcmp, 1) := dw_148 wX9_isBeyondDoubt_c rfl
theorem dX9_isBeyondDoubt_56 : decode cX9_isBeyondDoubt 56 = .ok (.ifCond .gt 7, 3) := dw_157 wX9_isBeyondDoubt_c 0 7 rfl rfl rfl
theorem dX9_isBeyondDoubt_59 : decode cX9_isBeyondDoubt 59 = .ok (.iconst 1, 1) := dw_4 wX9_isBeyondDoubt_c rfl
theorem dX9_isBeyondDoubt_60 : decode cX9_isBeyondDoubt 60 = .ok (.goto 4, 3) := dw_167 wX9_isBeyondDoubt_c 0 4 rfl rfl rfl
theorem dX9_isBeyondDoubt_63 : decode cX9_isBeyondDoubt 63 = .ok (.iconst 0, 1) := dw_3 wX9_isBeyondDoubt_c rfl
theorem dX9_isBeyondDoubt_64 : decode cX9_isBeyondDoubt 64 = .ok (.ireturn, 1) := dw_172 wX9_isBeyondDoubt_c rfl
set_option maxHeartbeats 4000000 in
set_option maxRecDepth 100000 in
theorem t_X9_isBeyondDoubt (l : Launch) (dC : Nat → ClassId) (dI : Nat → Nat → Nat) (dA : Nat → ClassId) (L : List Nat) (h : hx_h) (sz : Nat) (i1 : Int32) (i2 : Int32) (hT : hx_T T_tb L h)  (hi1 : 0 ≤ i1.toInt ∧ i1.toInt ≤ 60) : Met l yX9_isBeyondDoubt (Cond.code yX9_isBeyondDoubt cX9_isBeyondDoubt 7 (some .boolean) :: hx_all) ({ frames := 0, cells := 0, slots := 0, locals := 0 }) (va_Pc [.int i1, .int i2] (hx_B T_tb (P_ty dA) (dC, dI) vwCl L h sz)) (va_Qi (fun (r : Int32) (u : List Nat × hx_h) => (r.toInt = 0 ∨ r.toInt = 1) ∧ hx_T T_tb u.1 u.2 ∧ hx_S T_tb [] L h u.1 u.2) (hx_E T_tb (P_ty dA) (dC, dI) vwCl (hx_A L sz)) (hx_A L sz)) 0 0 (hx_A L sz) := by
  refine hx_met (lv := [(0, .int i1), (1, .int i2)]) (by decide +kernel) rfl (Nat.le_of_ble_eq_true rfl) rfl ?_
  intro p e s m below meth c hx hb hml hr hlk hts0 hown hin hsz hW ls hl
  have hts : ∀ w ∈ hx_all, w.before _ s = true := fun w hw => hts0 w (List.mem_cons_of_mem _ hw)
  have hown : s.vm.findClass "SmallCourt" = some m.cls := hown
  have hM : hx_S T_tb [] L h L h := hx_S.rf
  refine lv_lconst (v := 0) hx hb dX9_isBeyondDoubt_0 (by decide) ?_
  refine lv_lstore_n (lv' := [(2, .long (0 : Int64)), (0, .int i1), (1, .int i2)]) hx hb dX9_isBeyondDoubt_1 rfl hl (by decide) rfl (fun ls hl => ?_)
  refine lv_lconst (v := 1) hx hb dX9_isBeyondDoubt_2 (by decide) ?_
  refine lv_lstore (lv' := [(4, .long (1 : Int64)), (2, .long (0 : Int64)), (0, .int i1), (1, .int i2)]) hx hb dX9_isBeyondDoubt_3 hl (by decide) rfl (fun ls hl => ?_)
  refine lv_iconst (v := 0) hx hb dX9_isBeyondDoubt_5 (by decide) ?_
  refine lv_istore (lv' := [(6, .int (0 : Int32)), (4, .long (1 : Int64)), (2, .long (0 : Int64)), (0, .int i1), (1, .int i2)]) hx hb dX9_isBeyondDoubt_6 hl (by decide) rfl (fun ls hl => ?_)
  have loop8 : ∀ (n8 : Nat) (iv8_6 : Int32) (iv8_4 iv8_2 : Int64) (H : Heap) (locs : List Loc) (hL1 : List Nat) (hl1 : hx_h), 0 ≤ iv8_6.toInt → iv8_6.toInt ≤ 61 → ∀ (ls : Array Slot), 61 - iv8_6.toInt < (n8 : Int) → hx_W T_tb (P_ty dA) (dC, dI) vwCl (hx_A L sz) s.heap hL1 hl1 s H locs → hx_T T_tb hL1 hl1 → hx_S T_tb [] L h hL1 hl1 → lv_has ls 7 [(6, .int iv8_6), (4, .long iv8_4), (2, .long iv8_2), (0, .int i1), (1, .int i2)] → W p l e ({ frames := 0, cells := 0, slots := 0, locals := 0 }) s m ([.int i1, .int i2] : List Value).toArray below meth c H locs 0 0 (MQ below (va_Qi (fun (r : Int32) (u : List Nat × hx_h) => (r.toInt = 0 ∨ r.toInt = 1) ∧ hx_T T_tb u.1 u.2 ∧ hx_S T_tb [] L h u.1 u.2) (hx_E T_tb (P_ty dA) (dC, dI) vwCl (hx_A L sz)) (hx_A L sz)) ([.int i1, .int i2] : List Value).toArray s 0 0 (hx_A L sz)) (F0 m 8 ls []) := by
    intro n8
    induction n8 with
    | zero => intro iv8_6 iv8_4 iv8_2 H locs hL1 hl1 bliv8_6 buiv8_6  ls hn8; exfalso; omega
    | succ n8 ih8 =>
      intro iv8_6 iv8_4 iv8_2 H locs hL1 hl1 bliv8_6 buiv8_6  ls hn8 hW hT hM   hl
      refine lv_iload hx hb dX9_isBeyondDoubt_8 (lv_at hl 0 rfl) ?_
      refine lv_iload_n hx hb dX9_isBeyondDoubt_10 rfl (lv_at hl 3 rfl) ?_
      refine hb_icmp_gt (zx := iv8_6.toInt) (zy := i1.toInt) (tgt := 47) hx hb rfl rfl dX9_isBeyondDoubt_11 (by decide) (fun c_1 => ?_) (fun c_1 => ?_)
      · skip
        refine lv_lload_n hx hb dX9_isBeyondDoubt_47 rfl (lv_at hl 2 rfl) ?_
        refine lv_lconst (v := 1) hx hb dX9_isBeyondDoubt_48 (by decide) ?_
        refine lv_iload_n hx hb dX9_isBeyondDoubt_49 rfl (lv_at hl 3 rfl) ?_
        refine lv_lshl hx hb dX9_isBeyondDoubt_50 rfl ?_
        refine lv_topl (fun x_2 ex_2 => ?_)
        refine lv_ldc2 (v := 20) hx hb hown (hts _ kw_1100) dX9_isBeyondDoubt_51 ?_
        refine lv_ldiv hx hb dX9_isBeyondDoubt_54 (by decide) ?_
        refine lv_topl (fun x_3 ex_3 => ?_)
        refine lv_lcmp hx hb dX9_isBeyondDoubt_55 (fun x_4 => ?_)
        have jn_64 : ∀ (xj_5 : Int32) (ls : Array Slot), 0 ≤ xj_5.toInt → xj_5.toInt ≤ 1 → lv_has ls 7 [(6, .int iv8_6), (4, .long iv8_4), (2, .long iv8_2), (0, .int i1), (1, .int i2)] → W p l e ({ frames := 0, cells := 0, slots := 0, locals := 0 }) s m ([.int i1, .int i2] : List Value).toArray below meth c H locs 0 0 (MQ below (va_Qi (fun (r : Int32) (u : List Nat × hx_h) => (r.toInt = 0 ∨ r.toInt = 1) ∧ hx_T T_tb u.1 u.2 ∧ hx_S T_tb [] L h u.1 u.2) (hx_E T_tb (P_ty dA) (dC, dI) vwCl (hx_A L sz)) (hx_A L sz)) ([.int i1, .int i2] : List Value).toArray s 0 0 (hx_A L sz)) (F0 m 64 ls [.int xj_5]) := by
          intro xj_5 ls blxj_5 buxj_5 hl
          exact hx_retz hx hb hr (hx_nar01 (by omega)) hlk hW ⟨(by omega), hT, hM⟩ dX9_isBeyondDoubt_64
        refine hb_if_gt (zx := x_4.toInt) (tgt := 63) hx hb rfl dX9_isBeyondDoubt_56 (by decide) (fun c_6 => ?_) (fun c_6 => ?_)
        · skip
          refine lv_iconst (v := 0) hx hb dX9_isBeyondDoubt_63 (by decide) ?_
          exact jn_64 (0 : Int32) ls (by decide) (by decide) hl
        · skip
          refine lv_iconst (v := 1) hx hb dX9_isBeyondDoubt_59 (by decide) ?_
          refine lv_goto (tgt := 64) hx hb dX9_isBeyondDoubt_60 (by decide) ?_
          exact jn_64 (1 : Int32) ls (by decide) (by decide) hl
      · skip
        refine lv_iload hx hb dX9_isBeyondDoubt_14 (lv_at hl 0 rfl) ?_
        refine lv_iload_n hx hb dX9_isBeyondDoubt_16 rfl (lv_at hl 4 rfl) ?_
        refine hb_icmp_lt (zx := iv8_6.toInt) (zy := i2.toInt) (tgt := 25) hx hb rfl rfl dX9_isBeyondDoubt_17 (by decide) (fun c_7 => ?_) (fun c_7 => ?_)
        · skip
          refine lv_lload hx hb dX9_isBeyondDoubt_25 (lv_at hl 1 rfl) ?_
          refine lv_iload_n hx hb dX9_isBeyondDoubt_27 rfl (lv_at hl 3 rfl) ?_
          refine lv_iload hx hb dX9_isBeyondDoubt_28 (lv_at hl 0 rfl) ?_
          refine lv_isub hx hb dX9_isBeyondDoubt_30 ?_
          have rg_8 := i32_r i1
          have rg_9 := i32_r iv8_6
          refine lv_topi (fun x_10 ex_10 => ?_)
          have zx_10 : x_10.toInt = i1.toInt - iv8_6.toInt := by rw [ex_10]; exact i32_sub rfl rfl (by omega) (by omega)
          refine lv_i2l hx hb dX9_isBeyondDoubt_31 rfl ?_
          refine lv_topl (fun x_11 ex_11 => ?_)
          refine lv_lmul hx hb dX9_isBeyondDoubt_32 ?_
          refine lv_topl (fun x_12 ex_12 => ?_)
          refine lv_iload hx hb dX9_isBeyondDoubt_33 (lv_at hl 0 rfl) ?_
          refine lv_iconst (v := 1) hx hb dX9_isBeyondDoubt_35 (by decide) ?_
          refine lv_iadd hx hb dX9_isBeyondDoubt_36 ?_
          refine lv_topi (fun x_13 ex_13 => ?_)
          have zx_13 : x_13.toInt = iv8_6.toInt + 1 := by rw [ex_13]; exact i32_add rfl (by decide) (by omega) (by omega)
          refine lv_i2l hx hb dX9_isBeyondDoubt_37 rfl ?_
          refine lv_topl (fun x_14 ex_14 => ?_)
          have nx_14 : ¬ x_14 = 0 := by rw [ex_14]; exact hx_l0 (by omega)
          refine lv_ldiv hx hb dX9_isBeyondDoubt_38 nx_14 ?_
          refine lv_topl (fun x_15 ex_15 => ?_)
          refine lv_lstore (lv' := [(4, .long x_15), (6, .int iv8_6), (2, .long iv8_2), (0, .int i1), (1, .int i2)]) hx hb dX9_isBeyondDoubt_39 hl (by decide) rfl (fun ls hl => ?_)
          obtain ⟨x_16, ex_16⟩ : ∃ y : Int32, y = iv8_6 + Int32.ofInt 1 := ⟨_, rfl⟩
          have zx_16 : x_16.toInt = iv8_6.toInt + (1) := by rw [ex_16]; exact i32_add rfl (by decide) (by omega) (by omega)
          refine lv_iinc (v := x_16) (lv' := [(6, .int x_16), (4, .long x_15), (2, .long iv8_2), (0, .int i1), (1, .int i2)]) hx hb dX9_isBeyondDoubt_41 hl (k := 1) rfl ex_16.symm (by decide) rfl (fun ls hl => ?_)
          refine lv_goto (tgt := 8) hx hb dX9_isBeyondDoubt_44 (by decide) ?_
          exact ih8 x_16 x_15 iv8_2 _ _ hL1 hl1 (by omega) (by omega)  ls (by omega) hW hT hM   (lv_sub hl [0, 1, 2, 3, 4] rfl)
        · skip
          refine lv_lload_n hx hb dX9_isBeyondDoubt_20 rfl (lv_at hl 2 rfl) ?_
          refine lv_lload hx hb dX9_isBeyondDoubt_21 (lv_at hl 1 rfl) ?_
          refine lv_ladd hx hb dX9_isBeyondDoubt_23 ?_
          refine lv_topl (fun x_17 ex_17 => ?_)
          refine lv_lstore_n (lv' := [(2, .long x_17), (6, .int iv8_6), (4, .long iv8_4), (0, .int i1), (1, .int i2)]) hx hb dX9_isBeyondDoubt_24 rfl hl (by decide) rfl (fun ls hl => ?_)
          refine lv_lload hx hb dX9_isBeyondDoubt_25 (lv_at hl 2 rfl) ?_
          refine lv_iload_n hx hb dX9_isBeyondDoubt_27 rfl (lv_at hl 3 rfl) ?_
          refine lv_iload hx hb dX9_isBeyondDoubt_28 (lv_at hl 1 rfl) ?_
          refine lv_isub hx hb dX9_isBeyondDoubt_30 ?_
          have rg_18 := i32_r i1
          have rg_19 := i32_r iv8_6
          refine lv_topi (fun x_20 ex_20 => ?_)
          have zx_20 : x_20.toInt = i1.toInt - iv8_6.toInt := by rw [ex_20]; exact i32_sub rfl rfl (by omega) (by omega)
          refine lv_i2l hx hb dX9_isBeyondDoubt_31 rfl ?_
          refine lv_topl (fun x_21 ex_21 => ?_)
          refine lv_lmul hx hb dX9_isBeyondDoubt_32 ?_
          refine lv_topl (fun x_22 ex_22 => ?_)
          refine lv_iload hx hb dX9_isBeyondDoubt_33 (lv_at hl 1 rfl) ?_
          refine lv_iconst (v := 1) hx hb dX9_isBeyondDoubt_35 (by decide) ?_
          refine lv_iadd hx hb dX9_isBeyondDoubt_36 ?_
          refine lv_topi (fun x_23 ex_23 => ?_)
          have zx_23 : x_23.toInt = iv8_6.toInt + 1 := by rw [ex_23]; exact i32_add rfl (by decide) (by omega) (by omega)
          refine lv_i2l hx hb dX9_isBeyondDoubt_37 rfl ?_
          refine lv_topl (fun x_24 ex_24 => ?_)
          have nx_24 : ¬ x_24 = 0 := by rw [ex_24]; exact hx_l0 (by omega)
          refine lv_ldiv hx hb dX9_isBeyondDoubt_38 nx_24 ?_
          refine lv_topl (fun x_25 ex_25 => ?_)
          refine lv_lstore (lv' := [(4, .long x_25), (2, .long x_17), (6, .int iv8_6), (0, .int i1), (1, .int i2)]) hx hb dX9_isBeyondDoubt_39 hl (by decide) rfl (fun ls hl => ?_)
          obtain ⟨x_26, ex_26⟩ : ∃ y : Int32, y = iv8_6 + Int32.ofInt 1 := ⟨_, rfl⟩
          have zx_26 : x_26.toInt = iv8_6.toInt + (1) := by rw [ex_26]; exact i32_add rfl (by decide) (by omega) (by omega)
          refine lv_iinc (v := x_26) (lv' := [(6, .int x_26), (4, .long x_25), (2, .long x_17), (0, .int i1), (1, .int i2)]) hx hb dX9_isBeyondDoubt_41 hl (k := 2) rfl ex_26.symm (by decide) rfl (fun ls hl => ?_)
          refine lv_goto (tgt := 8) hx hb dX9_isBeyondDoubt_44 (by decide) ?_
          exact ih8 x_26 x_25 x_17 _ _ hL1 hl1 (by omega) (by omega)  ls (by omega) hW hT hM   (lv_sub hl [0, 1, 2, 3, 4] rfl)
  have zk_0 : (0 : Int32).toInt = 0 := by decide
  exact loop8 62 (0 : Int32) (1 : Int64) (0 : Int64) _ _ L h (by decide) (by decide)  ls (by omega) hW hT hM   hl

def wNX9_habit : Nat := 283680075158777479153717307559294185342906702651985785170364736774592529043278758226601368746818712194619094359818394686879034274981831163928853435481623983093658255766967746354573481225855797751927791734386181761224856698168863169175850289831146298002936000142862510983938795573808622999810578040858781924563426192238585843721123884828074356097750858209394790203912635596322299103339761227749172115159621747502095146
theorem wX9_habit_c : hz_cd cX9_habit wNX9_habit 173 := ⟨by decide +kernel, by decide +kernel⟩
theorem dX9_habit_0 : decode cX9_habit 0 = .ok (.aload_n 0, 1) := dw_42 wX9_habit_c rfl
theorem dX9_habit_1 : decode cX9_habit 1 = .ok (.iload_n 1, 1) := dw_27 wX9_habit_c rfl
theorem dX9_habit_2 : decode cX9_habit 2 = .ok (.invokevirtual 144, 3) := dw_182 wX9_habit_c 0 144 rfl rfl
theorem dX9_habit_5 : decode cX9_habit 5 = .ok (.astore_n 3, 1) := dw_78 wX9_habit_c rfl
theorem dX9_habit_6 : decode cX9_habit 6 = .ok (.aload_n 3, 1) := dw_45 wX9_habit_c rfl
theorem dX9_habit_7 : decode cX9_habit 7 = .ok (.ifnull 10, 3) := dw_198 wX9_habit_c 0 10 rfl rfl rfl
theorem dX9_habit_10 : decode cX9_habit 10 = .ok (.aload_n 3, 1) := dw_45 wX9_habit_c rfl
theorem dX9_habit_11 : decode cX9_habit 11 = .ok (.getfield 155, 3) := dw_180 wX9_habit_c 0 155 rfl rfl
theorem dX9_habit_14 : decode cX9_habit 14 = .ok (.ifCond .ne 5, 3) := dw_154 wX9_habit_c 0 5 rfl rfl rfl
theorem dX9_habit_17 : decode cX9_habit 17 = .ok (.iconst (-1), 1) := dw_2 wX9_habit_c rfl
theorem dX9_habit_18 : decode cX9_habit 18 = .ok (.ireturn, 1) := dw_172 wX9_habit_c rfl
theorem dX9_habit_19 : decode cX9_habit 19 = .ok (.iconst 0, 1) := dw_3 wX9_habit_c rfl
theorem dX9_habit_20 : decode cX9_habit 20 = .ok (.istore 4, 2) := dw_54 wX9_habit_c 4 rfl
theorem dX9_habit_22 : decode cX9_habit 22 = .ok (.iconst 0, 1) := dw_3 wX9_habit_c rfl
theorem dX9_habit_23 : decode cX9_habit 23 = .ok (.istore 5, 2) := dw_54 wX9_habit_c 5 rfl
theorem dX9_habit_25 : decode cX9_habit 25 = .ok (.aload_n 0, 1) := dw_42 wX9_habit_c rfl
theorem dX9_habit_26 : decode cX9_habit 26 = .ok (.getfield 216, 3) := dw_180 wX9_habit_c 0 216 rfl rfl
theorem dX9_habit_29 : decode cX9_habit 29 = .ok (.iconst 1, 1) := dw_4 wX9_habit_c rfl
theorem dX9_habit_30 : decode cX9_habit 30 = .ok (.isub, 1) := dw_100 wX9_habit_c rfl
theorem dX9_habit_31 : decode cX9_habit 31 = .ok (.istore 6, 2) := dw_54 wX9_habit_c 6 rfl
theorem dX9_habit_33 : decode cX9_habit 33 = .ok (.iload 6, 2) := dw_21 wX9_habit_c 6 rfl
theorem dX9_habit_35 : decode cX9_habit 35 = .ok (.ifCond .lt 71, 3) := dw_155 wX9_habit_c 0 71 rfl rfl rfl
theorem dX9_habit_38 : decode cX9_habit 38 = .ok (.iload 4, 2) := dw_21 wX9_habit_c 4 rfl
theorem dX9_habit_40 : decode cX9_habit 40 = .ok (.bipush 60, 2) := dw_16 wX9_habit_c 60 rfl rfl rfl
theorem dX9_habit_42 : decode cX9_habit 42 = .ok (.if_icmp .ge 64, 3) := dw_162 wX9_habit_c 0 64 rfl rfl rfl
theorem dX9_habit_45 : decode cX9_habit 45 = .ok (.aload_n 0, 1) := dw_42 wX9_habit_c rfl
theorem dX9_habit_46 : decode cX9_habit 46 = .ok (.getfield 52, 3) := dw_180 wX9_habit_c 0 52 rfl rfl
theorem dX9_habit_49 : decode cX9_habit 49 = .ok (.iload 6, 2) := dw_21 wX9_habit_c 6 rfl
theorem dX9_habit_51 : decode cX9_habit 51 = .ok (.aaload, 1) := dw_50 wX9_habit_c rfl
theorem dX9_habit_52 : decode cX9_habit 52 = .ok (.getfield 233, 3) := dw_180 wX9_habit_c 0 233 rfl rfl
theorem dX9_habit_55 : decode cX9_habit 55 = .ok (.iconst 4, 1) := dw_7 wX9_habit_c rfl
theorem dX9_habit_56 : decode cX9_habit 56 = .ok (.if_icmp .lt 44, 3) := dw_161 wX9_habit_c 0 44 rfl rfl rfl
theorem dX9_habit_59 : decode cX9_habit 59 = .ok (.aload_n 0, 1) := dw_42 wX9_habit_c rfl
theorem dX9_habit_60 : decode cX9_habit 60 = .ok (.getfield 52, 3) := dw_180 wX9_habit_c 0 52 rfl rfl
theorem dX9_habit_63 : decode cX9_habit 63 = .ok (.iload 6, 2) := dw_21 wX9_habit_c 6 rfl
theorem dX9_habit_65 : decode cX9_habit 65 = .ok (.aaload, 1) := dw_50 wX9_habit_c rfl
theorem dX9_habit_66 : decode cX9_habit 66 = .ok (.iload_n 1, 1) := dw_27 wX9_habit_c rfl
theorem dX9_habit_67 : decode cX9_habit 67 = .ok (.invokevirtual 397, 3) := dw_182 wX9_habit_c 1 141 rfl rfl
theorem dX9_habit_70 : decode cX9_habit 70 = .ok (.ifCond .eq 30, 3) := dw_153 wX9_habit_c 0 30 rfl rfl rfl
theorem dX9_habit_73 : decode cX9_habit 73 = .ok (.iinc 4 1, 3) := dw_132 wX9_habit_c 4 1 rfl rfl rfl
theorem dX9_habit_76 : decode cX9_habit 76 = .ok (.iload 5, 2) := dw_21 wX9_habit_c 5 rfl
theorem dX9_habit_78 : decode cX9_habit 78 = .ok (.aload_n 0, 1) := dw_42 wX9_habit_c rfl
theorem dX9_habit_79 : decode cX9_habit 79 = .ok (.getfield 52, 3) := dw_180 wX9_habit_c 0 52 rfl rfl
theorem dX9_habit_82 : decode cX9_habit 82 = .ok (.iload 6, 2) := dw_21 wX9_habit_c 6 rfl
theorem dX9_habit_84 : decode cX9_habit 84 = .ok (.aaload, 1) := dw_50 wX9_habit_c rfl
theorem dX9_habit_85 : decode cX9_habit 85 = .ok (.getfield 233, 3) := dw_180 wX9_habit_c 0 233 rfl rfl
theorem dX9_habit_88 : decode cX9_habit 88 = .ok (.iconst 5, 1) := dw_8 wX9_habit_c rfl
theorem dX9_habit_89 : decode cX9_habit 89 = .ok (.if_icmp .ne 7, 3) := dw_160 wX9_habit_c 0 7 rfl rfl rfl
theorem dX9_habit_92 : decode cX9_habit 92 = .ok (.iconst 1, 1) := dw_4 wX9_habit_c rfl
theorem dX9_habit_93 : decode cX9_habit 93 = .ok (.goto 4, 3) := dw_167 wX9_habit_c 0 4 rfl rfl rfl
theorem dX9_habit_96 : decode cX9_habit 96 = .ok (.iconst 0, 1) := dw_3 wX9_habit_c rfl
theorem dX9_habit_97 : decode cX9_habit 97 = .ok (.iadd, 1) := dw_96 wX9_habit_c rfl
theorem dX9_habit_98 : decode cX9_habit 98 = .ok (.istore 5, 2) := dw_54 wX9_habit_c 5 rfl
theorem dX9_habit_100 : decode cX9_habit 100 = .ok (.iinc 6 (-1), 3) := dn_132 wX9_habit_c 6 255 rfl (by decide)
theorem dX9_habit_103 : decode cX9_habit 103 = .ok (.goto (-70), 3) := dn_167 wX9_habit_c 255 186 rfl (by decide)
theorem dX9_habit_106 : decode cX9_habit 106 = .ok (.iload_n 2, 1) := dw_28 wX9_habit_c rfl
theorem dX9_habit_107 : decode cX9_habit 107 = .ok (.tableswitch 64 0 2 #[25, 28, 31], 25) := by decide +kernel
theorem dX9_habit_132 : decode cX9_habit 132 = .ok (.iload 4, 2) := dw_21 wX9_habit_c 4 rfl
theorem dX9_habit_134 : decode cX9_habit 134 = .ok (.ireturn, 1) := dw_172 wX9_habit_c rfl
theorem dX9_habit_135 : decode cX9_habit 135 = .ok (.iload 5, 2) := dw_21 wX9_habit_c 5 rfl
theorem dX9_habit_137 : decode cX9_habit 137 = .ok (.ireturn, 1) := dw_172 wX9_habit_c rfl
theorem dX9_habit_138 : decode cX9_habit 138 = .ok (.iload 4, 2) := dw_21 wX9_habit_c 4 rfl
theorem dX9_habit_140 : decode cX9_habit 140 = .ok (.iload 5, 2) := dw_21 wX9_habit_c 5 rfl
theorem dX9_habit_142 : decode cX9_habit 142 = .ok (.invokestatic 400, 3) := dw_184 wX9_habit_c 1 144 rfl rfl
theorem dX9_habit_145 : decode cX9_habit 145 = .ok (.ifCond .eq 7, 3) := dw_153 wX9_habit_c 0 7 rfl rfl rfl
theorem dX9_habit_148 : decode cX9_habit 148 = .ok (.iconst 1, 1) := dw_4 wX9_habit_c rfl
theorem dX9_habit_149 : decode cX9_habit 149 = .ok (.goto 21, 3) := dw_167 wX9_habit_c 0 21 rfl rfl rfl
theorem dX9_habit_152 : decode cX9_habit 152 = .ok (.iload 4, 2) := dw_21 wX9_habit_c 4 rfl
theorem dX9_habit_154 : decode cX9_habit 154 = .ok (.iload 4, 2) := dw_21 wX9_habit_c 4 rfl
theorem dX9_habit_156 : decode cX9_habit 156 = .ok (.iload 5, 2) := dw_21 wX9_habit_c 5 rfl
theorem dX9_habit_158 : decode cX9_habit 158 = .ok (.isub, 1) := dw_100 wX9_habit_c rfl
theorem dX9_habit_159 : decode cX9_habit 159 = .ok (.invokestatic 400, 3) := dw_184 wX9_habit_c 1 144 rfl rfl
theorem dX9_habit_162 : decode cX9_habit 162 = .ok (.ifCond .eq 7, 3) := dw_153 wX9_habit_c 0 7 rfl rfl rfl
theorem dX9_habit_165 : decode cX9_habit 165 = .ok (.iconst 2, 1) := dw_5 wX9_habit_c rfl
theorem dX9_habit_166 : decode cX9_habit 166 = .ok (.goto 4, 3) := dw_167 wX9_habit_c 0 4 rfl rfl rfl
theorem dX9_habit_169 : decode cX9_habit 169 = .ok (.iconst 0, 1) := dw_3 wX9_habit_c rfl
theorem dX9_habit_170 : decode cX9_habit 170 = .ok (.ireturn, 1) := dw_172 wX9_habit_c rfl
theorem dX9_habit_171 : decode cX9_habit 171 = .ok (.iconst (-1), 1) := dw_2 wX9_habit_c rfl
theorem dX9_habit_172 : decode cX9_habit 172 = .ok (.ireturn, 1) := dw_172 wX9_habit_c rfl
set_option maxHeartbeats 4000000 in
set_option maxRecDepth 100000 in
theorem t_X9_habit (l : Launch) (dC : Nat → ClassId) (dI : Nat → Nat → Nat) (dA : Nat → ClassId) (L : List Nat) (h : hx_h) (sz : Nat) (x : Nat) (i1 : Int32) (i2 : Int32) (hT : hx_T T_tb L h) (gx : hx_g L h x 9) (qp : Nat) (gqp : hx_g L h qp 44) (f_x_7 : h.2.2 x 7 = some qp) (qh : Nat) (gqh : hx_g L h qh 46) (f_x_12 : h.2.2 x 12 = some qh) (pf_x_8 : ∀ j : Nat, (j : Int) < (h.2.1 x 8).toInt → h.2.2 qp j ≠ none) (pf_x_13 : ∀ j : Nat, (j : Int) < (h.2.1 x 13).toInt → h.2.2 qh j ≠ none) : Met l yX9_habit (Cond.code yX9_habit cX9_habit 7 (some .int) :: hx_all) ({ frames := 1, cells := 0, slots := 0, locals := 26 }) (va_Pc [.ref x, .int i1, .int i2] (hx_B T_tb (P_ty dA) (dC, dI) vwCl L h sz)) (va_Qi (fun (r : Int32) (u : List Nat × hx_h) => (True) ∧ hx_T T_tb u.1 u.2 ∧ hx_S T_tb [] L h u.1 u.2) (hx_E T_tb (P_ty dA) (dC, dI) vwCl (hx_A L sz)) (hx_A L sz)) 0 0 (hx_A L sz) := by
  refine hx_met (lv := [(0, .ref x), (1, .int i1), (2, .int i2)]) (by decide +kernel) rfl (Nat.le_of_ble_eq_true rfl) rfl ?_
  intro p e s m below meth c hx hb hml hr hlk hts0 hown hin hsz hW ls hl
  have hts : ∀ w ∈ hx_all, w.before _ s = true := fun w hw => hts0 w (List.mem_cons_of_mem _ hw)
  have hown : s.vm.findClass "SmallCourt" = some m.cls := hown
  have hM : hx_S T_tb [] L h L h := hx_S.rf
  refine lv_aload_n hx hb dX9_habit_0 rfl (lv_at hl 0 rfl) ?_
  refine lv_iload_n hx hb dX9_habit_1 rfl (lv_at hl 1 rfl) ?_
  refine hx_goq (hx_runV (As := [.int i1]) (rest := []) ⟨hx, hb, hml, hown, hts⟩ hW (gx.S hM) tt_9 (T := TX9) (N := 20) rfl (t_X9_personAt l dC dI dA L h s.heap.size x i1 hT (gx.S hM) qp (gqp.S hM) ((hM.o gx trivial rfl).2.trans f_x_7) pf_x_8) (cwV 1 hts (hx_gV kw_659 kw_656 kw_658 kw_20 kw_94) rfl rfl rfl (by decide +kernel) ⟨Nat.le_of_ble_eq_true rfl, Nat.le_of_ble_eq_true rfl⟩) rfl hl.1 rfl (Nat.le_of_ble_eq_true rfl) dX9_habit_2 ⟨Nat.le_of_ble_eq_true rfl, Nat.le_of_ble_eq_true rfl⟩) hW (fun r_3 L_1 h_2 H locs p_4 hW => ?_)
  obtain ⟨hr_5, hT, hs⟩ := p_4
  replace hT : hx_T T_tb L_1 h_2 := hT
  replace hs : hx_S T_tb [] L h L_1 h_2 := hs
  replace pf_x_8 : ∀ j : Nat, (j : Int) < (h_2.2.1 x 8).toInt → h_2.2.2 qp j ≠ none := by
    intro j hj; rw [(hs.o (gx.S hM) trivial rfl).1] at hj; rw [(hs.a (gqp.S hM) rfl j).2]; exact pf_x_8 j hj
  replace pf_x_13 : ∀ j : Nat, (j : Int) < (h_2.2.1 x 13).toInt → h_2.2.2 qh j ≠ none := by
    intro j hj; rw [(hs.o (gx.S hM) trivial rfl).1] at hj; rw [(hs.a (gqh.S hM) rfl j).2]; exact pf_x_13 j hj
  replace hM := hM.tr (hs.mono (by decide))
  have hr_5 : ∀ q, r_3 = some q → hx_g L_1 h_2 q 4 := hr_5
  rcases r_3 with _ | q_6
  · skip
    refine lv_astore_nN (lv' := [(3, .null), (0, .ref x), (1, .int i1), (2, .int i2)]) hx hb dX9_habit_5 rfl hl (by decide) rfl (fun ls hl => ?_)
    refine lv_aload_nN hx hb dX9_habit_6 rfl (lv_at hl 0 rfl) ?_
    refine lv_ifnullN (tgt := 17) hx hb dX9_habit_7 (by decide) ?_
    refine lv_iconst (v := -1) hx hb dX9_habit_17 (by decide) ?_
    exact hx_reti hx hb hr hlk hW ⟨trivial, hT, hM⟩ dX9_habit_18
  · have gq_6 := hr_5 _ rfl
    refine lv_astore_n (lv' := [(3, .ref q_6), (0, .ref x), (1, .int i1), (2, .int i2)]) hx hb dX9_habit_5 rfl hl (by decide) rfl (fun ls hl => ?_)
    refine lv_aload_n hx hb dX9_habit_6 rfl (lv_at hl 0 rfl) ?_
    refine lv_ifnull hx hb dX9_habit_7 ?_
    refine lv_aload_n hx hb dX9_habit_10 rfl (lv_at hl 0 rfl) ?_
    refine hx_geti hx hb hts hC_4 hown hW hT gq_6 tt_4 9 (by decide) rfl kw_626 ⟨rfl, rfl, rfl⟩ dX9_habit_11 (fun x_7 ex_7 lx_7 ux_7 => ?_)
    have fx_7 := ex_7.symm
    refine hb_if_ne (zx := x_7.toInt) (tgt := 19) hx hb rfl dX9_habit_14 (by decide) (fun c_8 => ?_) (fun c_8 => ?_)
    · skip
      refine lv_iconst (v := 0) hx hb dX9_habit_19 (by decide) ?_
      refine lv_istore (lv' := [(4, .int (0 : Int32)), (3, .ref q_6), (0, .ref x), (1, .int i1), (2, .int i2)]) hx hb dX9_habit_20 hl (by decide) rfl (fun ls hl => ?_)
      refine lv_iconst (v := 0) hx hb dX9_habit_22 (by decide) ?_
      refine lv_istore (lv' := [(5, .int (0 : Int32)), (4, .int (0 : Int32)), (3, .ref q_6), (0, .ref x), (1, .int i1), (2, .int i2)]) hx hb dX9_habit_23 hl (by decide) rfl (fun ls hl => ?_)
      refine lv_aload_n hx hb dX9_habit_25 rfl (lv_at hl 3 rfl) ?_
      refine hx_geti hx hb hts hC_9 hown hW hT (gx.S hM) tt_9 13 (by decide) rfl kw_377 ⟨rfl, rfl, rfl⟩ dX9_habit_26 (fun x_9 ex_9 lx_9 ux_9 => ?_)
      have fx_9 := ex_9.symm
      refine lv_iconst (v := 1) hx hb dX9_habit_29 (by decide) ?_
      refine lv_isub hx hb dX9_habit_30 ?_
      have rg_10 := i32_r x_9
      refine lv_topi (fun x_11 ex_11 => ?_)
      have zx_11 : x_11.toInt = x_9.toInt - 1 := by rw [ex_11]; exact i32_sub rfl (by decide) (by omega) (by omega)
      refine lv_istore (lv' := [(6, .int x_11), (5, .int (0 : Int32)), (4, .int (0 : Int32)), (3, .ref q_6), (0, .ref x), (1, .int i1), (2, .int i2)]) hx hb dX9_habit_31 hl (by decide) rfl (fun ls hl => ?_)
      have loop33 : ∀ (n33 : Nat) (iv33_4 iv33_5 iv33_6 : Int32) (H : Heap) (locs : List Loc) (hL1 : List Nat) (hl1 : hx_h), 0 ≤ iv33_4.toInt → iv33_4.toInt ≤ 60 → 0 ≤ iv33_5.toInt → iv33_5.toInt ≤ 60 → -1 ≤ iv33_6.toInt → iv33_6.toInt ≤ 99 → (iv33_6.toInt < x_9.toInt) → (iv33_5.toInt <= iv33_4.toInt) → ∀ (ls : Array Slot), iv33_6.toInt + 1 < (n33 : Int) → hx_W T_tb (P_ty dA) (dC, dI) vwCl (hx_A L sz) s.heap hL1 hl1 s H locs → hx_T T_tb hL1 hl1 → hx_S T_tb [] L h hL1 hl1 → hl1.2.1 q_6 9 = x_7 → hl1.2.1 x 13 = x_9 → hx_g hL1 hl1 q_6 4 → (∀ j : Nat, (j : Int) < (hl1.2.1 x 8).toInt → hl1.2.2 qp j ≠ none) → (∀ j : Nat, (j : Int) < (hl1.2.1 x 13).toInt → hl1.2.2 qh j ≠ none) → lv_has ls 7 [(6, .int iv33_6), (5, .int iv33_5), (4, .int iv33_4), (3, .ref q_6), (0, .ref x), (1, .int i1), (2, .int i2)] → W p l e ({ frames := 1, cells := 0, slots := 0, locals := 26 }) s m ([.ref x, .int i1, .int i2] : List Value).toArray below meth c H locs 0 0 (MQ below (va_Qi (fun (r : Int32) (u : List Nat × hx_h) => (True) ∧ hx_T T_tb u.1 u.2 ∧ hx_S T_tb [] L h u.1 u.2) (hx_E T_tb (P_ty dA) (dC, dI) vwCl (hx_A L sz)) (hx_A L sz)) ([.ref x, .int i1, .int i2] : List Value).toArray s 0 0 (hx_A L sz)) (F0 m 33 ls []) := by
        intro n33
        induction n33 with
        | zero => intro iv33_4 iv33_5 iv33_6 H locs hL1 hl1 bliv33_4 buiv33_4 bliv33_5 buiv33_5 bliv33_6 buiv33_6 vi33_0 vi33_1 ls hn33; exfalso; omega
        | succ n33 ih33 =>
          intro iv33_4 iv33_5 iv33_6 H locs hL1 hl1 bliv33_4 buiv33_4 bliv33_5 buiv33_5 bliv33_6 buiv33_6 vi33_0 vi33_1 ls hn33 hW hT hM fx_7 fx_9 gq_6 pf_x_8 pf_x_13 hl
          refine lv_iload hx hb dX9_habit_33 (lv_at hl 0 rfl) ?_
          refine hb_if_lt (zx := iv33_6.toInt) (tgt := 106) hx hb rfl dX9_habit_35 (by decide) (fun c_12 => ?_) (fun c_12 => ?_)
          · skip
            refine lv_iload_n hx hb dX9_habit_106 rfl (lv_at hl 6 rfl) ?_
            rcases (show (i2.toInt < 0 ∨ 2 < i2.toInt) ∨ i2.toInt = 0 ∨ i2.toInt = 1 ∨ i2.toInt = 2 from by omega) with c_13 | c_13 | c_13 | c_13
            · refine lv_tableOut (tgt := 171) hx hb dX9_habit_107 c_13 (by decide) ?_
              refine lv_iconst (v := -1) hx hb dX9_habit_171 (by decide) ?_
              exact hx_reti hx hb hr hlk hW ⟨trivial, hT, hM⟩ dX9_habit_172
            · refine lv_tableIn (off := 25) (tgt := 132) hx hb dX9_habit_107 (by omega) (by omega) (by rw [c_13]; rfl) (by decide) ?_
              refine lv_iload hx hb dX9_habit_132 (lv_at hl 2 rfl) ?_
              exact hx_reti hx hb hr hlk hW ⟨trivial, hT, hM⟩ dX9_habit_134
            · refine lv_tableIn (off := 28) (tgt := 135) hx hb dX9_habit_107 (by omega) (by omega) (by rw [c_13]; rfl) (by decide) ?_
              refine lv_iload hx hb dX9_habit_135 (lv_at hl 1 rfl) ?_
              exact hx_reti hx hb hr hlk hW ⟨trivial, hT, hM⟩ dX9_habit_137
            · refine lv_tableIn (off := 31) (tgt := 138) hx hb dX9_habit_107 (by omega) (by omega) (by rw [c_13]; rfl) (by decide) ?_
              refine lv_iload hx hb dX9_habit_138 (lv_at hl 2 rfl) ?_
              refine lv_iload hx hb dX9_habit_140 (lv_at hl 1 rfl) ?_
              refine hx_goi (hx_runS (As := [.int iv33_4, .int iv33_5]) (rest := []) ⟨hx, hb, hml, hown, hts⟩ hW (t_X9_isBeyondDoubt l dC dI dA hL1 hl1 H.size iv33_4 iv33_5 hT ⟨by omega, by omega⟩) (va_cwS 2 hts (hx_gS kw_1099 kw_1097 kw_1098 kw_94) rfl rfl rfl (by decide +kernel) ⟨Nat.le_of_ble_eq_true rfl, Nat.le_of_ble_eq_true rfl⟩) rfl hl.1 rfl (Nat.le_of_ble_eq_true rfl) dX9_habit_142 ⟨Nat.le_of_ble_eq_true rfl, Nat.le_of_ble_eq_true rfl⟩) hW (fun r_16 L_14 h_15 H locs p_17 hW => ?_)
              obtain ⟨hr_18, hT, hs⟩ := p_17
              replace hT : hx_T T_tb L_14 h_15 := hT
              replace hs : hx_S T_tb [] hL1 hl1 L_14 h_15 := hs
              replace fx_7 := (hs.o gq_6 trivial rfl).1.trans fx_7
              replace fx_9 := (hs.o (gx.S hM) trivial rfl).1.trans fx_9
              replace pf_x_8 : ∀ j : Nat, (j : Int) < (h_15.2.1 x 8).toInt → h_15.2.2 qp j ≠ none := by
                intro j hj; rw [(hs.o (gx.S hM) trivial rfl).1] at hj; rw [(hs.a (gqp.S hM) rfl j).2]; exact pf_x_8 j hj
              replace pf_x_13 : ∀ j : Nat, (j : Int) < (h_15.2.1 x 13).toInt → h_15.2.2 qh j ≠ none := by
                intro j hj; rw [(hs.o (gx.S hM) trivial rfl).1] at hj; rw [(hs.a (gqh.S hM) rfl j).2]; exact pf_x_13 j hj
              replace hM := hM.tr (hs.mono (by decide))
              replace gq_6 := gq_6.S hs
              refine hb_if_eq (zx := r_16.toInt) (tgt := 152) hx hb rfl dX9_habit_145 (by decide) (fun c_19 => ?_) (fun c_19 => ?_)
              · skip
                refine lv_iload hx hb dX9_habit_152 (lv_at hl 2 rfl) ?_
                refine lv_iload hx hb dX9_habit_154 (lv_at hl 2 rfl) ?_
                refine lv_iload hx hb dX9_habit_156 (lv_at hl 1 rfl) ?_
                refine lv_isub hx hb dX9_habit_158 ?_
                have rg_20 := i32_r iv33_4
                have rg_21 := i32_r iv33_5
                refine lv_topi (fun x_22 ex_22 => ?_)
                have zx_22 : x_22.toInt = iv33_4.toInt - iv33_5.toInt := by rw [ex_22]; exact i32_sub rfl rfl (by omega) (by omega)
                refine hx_goi (hx_runS (As := [.int iv33_4, .int x_22]) (rest := []) ⟨hx, hb, hml, hown, hts⟩ hW (t_X9_isBeyondDoubt l dC dI dA L_14 h_15 H.size iv33_4 x_22 hT ⟨by omega, by omega⟩) (va_cwS 2 hts (hx_gS kw_1099 kw_1097 kw_1098 kw_94) rfl rfl rfl (by decide +kernel) ⟨Nat.le_of_ble_eq_true rfl, Nat.le_of_ble_eq_true rfl⟩) rfl hl.1 rfl (Nat.le_of_ble_eq_true rfl) dX9_habit_159 ⟨Nat.le_of_ble_eq_true rfl, Nat.le_of_ble_eq_true rfl⟩) hW (fun r_25 L_23 h_24 H locs p_26 hW => ?_)
                obtain ⟨hr_27, hT, hs⟩ := p_26
                replace hT : hx_T T_tb L_23 h_24 := hT
                replace hs : hx_S T_tb [] L_14 h_15 L_23 h_24 := hs
                replace fx_7 := (hs.o gq_6 trivial rfl).1.trans fx_7
                replace fx_9 := (hs.o (gx.S hM) trivial rfl).1.trans fx_9
                replace pf_x_8 : ∀ j : Nat, (j : Int) < (h_24.2.1 x 8).toInt → h_24.2.2 qp j ≠ none := by
                  intro j hj; rw [(hs.o (gx.S hM) trivial rfl).1] at hj; rw [(hs.a (gqp.S hM) rfl j).2]; exact pf_x_8 j hj
                replace pf_x_13 : ∀ j : Nat, (j : Int) < (h_24.2.1 x 13).toInt → h_24.2.2 qh j ≠ none := by
                  intro j hj; rw [(hs.o (gx.S hM) trivial rfl).1] at hj; rw [(hs.a (gqh.S hM) rfl j).2]; exact pf_x_13 j hj
                replace hM := hM.tr (hs.mono (by decide))
                replace gq_6 := gq_6.S hs
                have jn_170 : ∀ (xj_28 : Int32) (ls : Array Slot), 0 ≤ xj_28.toInt → xj_28.toInt ≤ 2 → lv_has ls 7 [(6, .int iv33_6), (5, .int iv33_5), (4, .int iv33_4), (3, .ref q_6), (0, .ref x), (1, .int i1), (2, .int i2)] → W p l e ({ frames := 1, cells := 0, slots := 0, locals := 26 }) s m ([.ref x, .int i1, .int i2] : List Value).toArray below meth c H locs 0 0 (MQ below (va_Qi (fun (r : Int32) (u : List Nat × hx_h) => (True) ∧ hx_T T_tb u.1 u.2 ∧ hx_S T_tb [] L h u.1 u.2) (hx_E T_tb (P_ty dA) (dC, dI) vwCl (hx_A L sz)) (hx_A L sz)) ([.ref x, .int i1, .int i2] : List Value).toArray s 0 0 (hx_A L sz)) (F0 m 170 ls [.int xj_28]) := by
                  intro xj_28 ls blxj_28 buxj_28 hl
                  exact hx_reti hx hb hr hlk hW ⟨trivial, hT, hM⟩ dX9_habit_170
                refine hb_if_eq (zx := r_25.toInt) (tgt := 169) hx hb rfl dX9_habit_162 (by decide) (fun c_29 => ?_) (fun c_29 => ?_)
                · skip
                  refine lv_iconst (v := 0) hx hb dX9_habit_169 (by decide) ?_
                  exact jn_170 (0 : Int32) ls (by decide) (by decide) hl
                · skip
                  refine lv_iconst (v := 2) hx hb dX9_habit_165 (by decide) ?_
                  refine lv_goto (tgt := 170) hx hb dX9_habit_166 (by decide) ?_
                  exact jn_170 (2 : Int32) ls (by decide) (by decide) hl
              · skip
                refine lv_iconst (v := 1) hx hb dX9_habit_148 (by decide) ?_
                refine lv_goto (tgt := 170) hx hb dX9_habit_149 (by decide) ?_
                exact hx_reti hx hb hr hlk hW ⟨trivial, hT, hM⟩ dX9_habit_170
          · skip
            refine lv_iload hx hb dX9_habit_38 (lv_at hl 2 rfl) ?_
            refine lv_bipush (v := 60) hx hb dX9_habit_40 (by decide) ?_
            refine hb_icmp_ge (zx := iv33_4.toInt) (zy := 60) (tgt := 106) hx hb rfl (by decide) dX9_habit_42 (by decide) (fun c_30 => ?_) (fun c_30 => ?_)
            · skip
              refine lv_iload_n hx hb dX9_habit_106 rfl (lv_at hl 6 rfl) ?_
              rcases (show (i2.toInt < 0 ∨ 2 < i2.toInt) ∨ i2.toInt = 0 ∨ i2.toInt = 1 ∨ i2.toInt = 2 from by omega) with c_31 | c_31 | c_31 | c_31
              · refine lv_tableOut (tgt := 171) hx hb dX9_habit_107 c_31 (by decide) ?_
                refine lv_iconst (v := -1) hx hb dX9_habit_171 (by decide) ?_
                exact hx_reti hx hb hr hlk hW ⟨trivial, hT, hM⟩ dX9_habit_172
              · refine lv_tableIn (off := 25) (tgt := 132) hx hb dX9_habit_107 (by omega) (by omega) (by rw [c_31]; rfl) (by decide) ?_
                refine lv_iload hx hb dX9_habit_132 (lv_at hl 2 rfl) ?_
                exact hx_reti hx hb hr hlk hW ⟨trivial, hT, hM⟩ dX9_habit_134
              · refine lv_tableIn (off := 28) (tgt := 135) hx hb dX9_habit_107 (by omega) (by omega) (by rw [c_31]; rfl) (by decide) ?_
                refine lv_iload hx hb dX9_habit_135 (lv_at hl 1 rfl) ?_
                exact hx_reti hx hb hr hlk hW ⟨trivial, hT, hM⟩ dX9_habit_137
              · refine lv_tableIn (off := 31) (tgt := 138) hx hb dX9_habit_107 (by omega) (by omega) (by rw [c_31]; rfl) (by decide) ?_
                refine lv_iload hx hb dX9_habit_138 (lv_at hl 2 rfl) ?_
                refine lv_iload hx hb dX9_habit_140 (lv_at hl 1 rfl) ?_
                refine hx_goi (hx_runS (As := [.int iv33_4, .int iv33_5]) (rest := []) ⟨hx, hb, hml, hown, hts⟩ hW (t_X9_isBeyondDoubt l dC dI dA hL1 hl1 H.size iv33_4 iv33_5 hT ⟨by omega, by omega⟩) (va_cwS 2 hts (hx_gS kw_1099 kw_1097 kw_1098 kw_94) rfl rfl rfl (by decide +kernel) ⟨Nat.le_of_ble_eq_true rfl, Nat.le_of_ble_eq_true rfl⟩) rfl hl.1 rfl (Nat.le_of_ble_eq_true rfl) dX9_habit_142 ⟨Nat.le_of_ble_eq_true rfl, Nat.le_of_ble_eq_true rfl⟩) hW (fun r_34 L_32 h_33 H locs p_35 hW => ?_)
                obtain ⟨hr_36, hT, hs⟩ := p_35
                replace hT : hx_T T_tb L_32 h_33 := hT
                replace hs : hx_S T_tb [] hL1 hl1 L_32 h_33 := hs
                replace fx_7 := (hs.o gq_6 trivial rfl).1.trans fx_7
                replace fx_9 := (hs.o (gx.S hM) trivial rfl).1.trans fx_9
                replace pf_x_8 : ∀ j : Nat, (j : Int) < (h_33.2.1 x 8).toInt → h_33.2.2 qp j ≠ none := by
                  intro j hj; rw [(hs.o (gx.S hM) trivial rfl).1] at hj; rw [(hs.a (gqp.S hM) rfl j).2]; exact pf_x_8 j hj
                replace pf_x_13 : ∀ j : Nat, (j : Int) < (h_33.2.1 x 13).toInt → h_33.2.2 qh j ≠ none := by
                  intro j hj; rw [(hs.o (gx.S hM) trivial rfl).1] at hj; rw [(hs.a (gqh.S hM) rfl j).2]; exact pf_x_13 j hj
                replace hM := hM.tr (hs.mono (by decide))
                replace gq_6 := gq_6.S hs
                refine hb_if_eq (zx := r_34.toInt) (tgt := 152) hx hb rfl dX9_habit_145 (by decide) (fun c_37 => ?_) (fun c_37 => ?_)
                · skip
                  refine lv_iload hx hb dX9_habit_152 (lv_at hl 2 rfl) ?_
                  refine lv_iload hx hb dX9_habit_154 (lv_at hl 2 rfl) ?_
                  refine lv_iload hx hb dX9_habit_156 (lv_at hl 1 rfl) ?_
                  refine lv_isub hx hb dX9_habit_158 ?_
                  have rg_38 := i32_r iv33_4
                  have rg_39 := i32_r iv33_5
                  refine lv_topi (fun x_40 ex_40 => ?_)
                  have zx_40 : x_40.toInt = iv33_4.toInt - iv33_5.toInt := by rw [ex_40]; exact i32_sub rfl rfl (by omega) (by omega)
                  refine hx_goi (hx_runS (As := [.int iv33_4, .int x_40]) (rest := []) ⟨hx, hb, hml, hown, hts⟩ hW (t_X9_isBeyondDoubt l dC dI dA L_32 h_33 H.size iv33_4 x_40 hT ⟨by omega, by omega⟩) (va_cwS 2 hts (hx_gS kw_1099 kw_1097 kw_1098 kw_94) rfl rfl rfl (by decide +kernel) ⟨Nat.le_of_ble_eq_true rfl, Nat.le_of_ble_eq_true rfl⟩) rfl hl.1 rfl (Nat.le_of_ble_eq_true rfl) dX9_habit_159 ⟨Nat.le_of_ble_eq_true rfl, Nat.le_of_ble_eq_true rfl⟩) hW (fun r_43 L_41 h_42 H locs p_44 hW => ?_)
                  obtain ⟨hr_45, hT, hs⟩ := p_44
                  replace hT : hx_T T_tb L_41 h_42 := hT
                  replace hs : hx_S T_tb [] L_32 h_33 L_41 h_42 := hs
                  replace fx_7 := (hs.o gq_6 trivial rfl).1.trans fx_7
                  replace fx_9 := (hs.o (gx.S hM) trivial rfl).1.trans fx_9
                  replace pf_x_8 : ∀ j : Nat, (j : Int) < (h_42.2.1 x 8).toInt → h_42.2.2 qp j ≠ none := by
                    intro j hj; rw [(hs.o (gx.S hM) trivial rfl).1] at hj; rw [(hs.a (gqp.S hM) rfl j).2]; exact pf_x_8 j hj
                  replace pf_x_13 : ∀ j : Nat, (j : Int) < (h_42.2.1 x 13).toInt → h_42.2.2 qh j ≠ none := by
                    intro j hj; rw [(hs.o (gx.S hM) trivial rfl).1] at hj; rw [(hs.a (gqh.S hM) rfl j).2]; exact pf_x_13 j hj
                  replace hM := hM.tr (hs.mono (by decide))
                  replace gq_6 := gq_6.S hs
                  have jn_170 : ∀ (xj_46 : Int32) (ls : Array Slot), 0 ≤ xj_46.toInt → xj_46.toInt ≤ 2 → lv_has ls 7 [(6, .int iv33_6), (5, .int iv33_5), (4, .int iv33_4), (3, .ref q_6), (0, .ref x), (1, .int i1), (2, .int i2)] → W p l e ({ frames := 1, cells := 0, slots := 0, locals := 26 }) s m ([.ref x, .int i1, .int i2] : List Value).toArray below meth c H locs 0 0 (MQ below (va_Qi (fun (r : Int32) (u : List Nat × hx_h) => (True) ∧ hx_T T_tb u.1 u.2 ∧ hx_S T_tb [] L h u.1 u.2) (hx_E T_tb (P_ty dA) (dC, dI) vwCl (hx_A L sz)) (hx_A L sz)) ([.ref x, .int i1, .int i2] : List Value).toArray s 0 0 (hx_A L sz)) (F0 m 170 ls [.int xj_46]) := by
                    intro xj_46 ls blxj_46 buxj_46 hl
                    exact hx_reti hx hb hr hlk hW ⟨trivial, hT, hM⟩ dX9_habit_170
                  refine hb_if_eq (zx := r_43.toInt) (tgt := 169) hx hb rfl dX9_habit_162 (by decide) (fun c_47 => ?_) (fun c_47 => ?_)
                  · skip
                    refine lv_iconst (v := 0) hx hb dX9_habit_169 (by decide) ?_
                    exact jn_170 (0 : Int32) ls (by decide) (by decide) hl
                  · skip
                    refine lv_iconst (v := 2) hx hb dX9_habit_165 (by decide) ?_
                    refine lv_goto (tgt := 170) hx hb dX9_habit_166 (by decide) ?_
                    exact jn_170 (2 : Int32) ls (by decide) (by decide) hl
                · skip
                  refine lv_iconst (v := 1) hx hb dX9_habit_148 (by decide) ?_
                  refine lv_goto (tgt := 170) hx hb dX9_habit_149 (by decide) ?_
                  exact hx_reti hx hb hr hlk hW ⟨trivial, hT, hM⟩ dX9_habit_170
            · skip
              refine lv_aload_n hx hb dX9_habit_45 rfl (lv_at hl 4 rfl) ?_
              refine hk_getr hx hb hts hC_9 hown hW (gx.S hM) tt_9 12 (by decide) rfl kw_376 ⟨rfl, rfl, rfl⟩ ((hM.o gx trivial rfl).2.trans f_x_12) dX9_habit_46 ?_
              refine lv_iload hx hb dX9_habit_49 (lv_at hl 0 rfl) ?_
              refine hx_aaldN hx hb hW hT (gqh.S hM) tt_46 (t1 := 2) rfl ⟨by omega, by omega⟩ (pf_x_13 _ (by rw [fx_9]; exact hx_tnI (by omega) (by omega))) dX9_habit_51 (fun q_48 fq_48 gq_48 => ?_)
              refine hx_geti hx hb hts hC_2 hown hW hT gq_48 tt_2 12 (by decide) rfl kw_751 ⟨rfl, rfl, rfl⟩ dX9_habit_52 (fun x_49 ex_49 lx_49 ux_49 => ?_)
              have fx_49 := ex_49.symm
              refine lv_iconst (v := 4) hx hb dX9_habit_55 (by decide) ?_
              refine hb_icmp_lt (zx := x_49.toInt) (zy := 4) (tgt := 100) hx hb rfl (by decide) dX9_habit_56 (by decide) (fun c_50 => ?_) (fun c_50 => ?_)
              · skip
                obtain ⟨x_51, ex_51⟩ : ∃ y : Int32, y = iv33_6 + Int32.ofInt (-1) := ⟨_, rfl⟩
                have rg_52 := i32_r iv33_6
                have zx_51 : x_51.toInt = iv33_6.toInt + (-1) := by rw [ex_51]; exact i32_add rfl (by decide) (by omega) (by omega)
                refine lv_iinc (v := x_51) (lv' := [(6, .int x_51), (5, .int iv33_5), (4, .int iv33_4), (3, .ref q_6), (0, .ref x), (1, .int i1), (2, .int i2)]) hx hb dX9_habit_100 hl (k := 0) rfl ex_51.symm (by decide) rfl (fun ls hl => ?_)
                refine lv_goto (tgt := 33) hx hb dX9_habit_103 (by decide) ?_
                exact ih33 iv33_4 iv33_5 x_51 _ _ hL1 hl1 (by omega) (by omega) (by omega) (by omega) (by omega) (by omega) (by omega) (by omega) ls (by omega) hW hT hM fx_7 fx_9 gq_6 pf_x_8 pf_x_13 (lv_sub hl [0, 1, 2, 3, 4, 5, 6] rfl)
              · skip
                refine lv_aload_n hx hb dX9_habit_59 rfl (lv_at hl 4 rfl) ?_
                refine hk_getr hx hb hts hC_9 hown hW (gx.S hM) tt_9 12 (by decide) rfl kw_376 ⟨rfl, rfl, rfl⟩ ((hM.o gx trivial rfl).2.trans f_x_12) dX9_habit_60 ?_
                refine lv_iload hx hb dX9_habit_63 (lv_at hl 0 rfl) ?_
                refine hx_aaldN hx hb hW hT (gqh.S hM) tt_46 (t1 := 2) rfl ⟨by omega, by omega⟩ (pf_x_13 _ (by rw [fx_9]; exact hx_tnI (by omega) (by omega))) dX9_habit_65 (fun q_53 fq_53 gq_53 => ?_)
                refine lv_iload_n hx hb dX9_habit_66 rfl (lv_at hl 5 rfl) ?_
                refine hx_goi (hx_runV (As := [.int i1]) (rest := []) ⟨hx, hb, hml, hown, hts⟩ hW gq_53 tt_2 (T := TX2) (N := 19) rfl (t_X2_isOnBench l dC dI dA hL1 hl1 H.size q_53 i1 hT gq_53) (cwV 1 hts (hx_gV kw_1096 kw_1093 kw_1094 kw_1095 kw_110) rfl rfl rfl (by decide +kernel) ⟨Nat.le_of_ble_eq_true rfl, Nat.le_of_ble_eq_true rfl⟩) rfl hl.1 rfl (Nat.le_of_ble_eq_true rfl) dX9_habit_67 ⟨Nat.le_of_ble_eq_true rfl, Nat.le_of_ble_eq_true rfl⟩) hW (fun r_56 L_54 h_55 H locs p_57 hW => ?_)
                obtain ⟨hr_58, hT, hs⟩ := p_57
                replace hT : hx_T T_tb L_54 h_55 := hT
                replace hs : hx_S T_tb [] hL1 hl1 L_54 h_55 := hs
                replace fx_7 := (hs.o gq_6 trivial rfl).1.trans fx_7
                replace fx_9 := (hs.o (gx.S hM) trivial rfl).1.trans fx_9
                replace fx_49 := (hs.o gq_48 trivial rfl).1.trans fx_49
                replace pf_x_8 : ∀ j : Nat, (j : Int) < (h_55.2.1 x 8).toInt → h_55.2.2 qp j ≠ none := by
                  intro j hj; rw [(hs.o (gx.S hM) trivial rfl).1] at hj; rw [(hs.a (gqp.S hM) rfl j).2]; exact pf_x_8 j hj
                replace pf_x_13 : ∀ j : Nat, (j : Int) < (h_55.2.1 x 13).toInt → h_55.2.2 qh j ≠ none := by
                  intro j hj; rw [(hs.o (gx.S hM) trivial rfl).1] at hj; rw [(hs.a (gqh.S hM) rfl j).2]; exact pf_x_13 j hj
                replace hM := hM.tr (hs.mono (by decide))
                replace gq_6 := gq_6.S hs
                replace gq_48 := gq_48.S hs
                replace gq_53 := gq_53.S hs
                refine hb_if_eq (zx := r_56.toInt) (tgt := 100) hx hb rfl dX9_habit_70 (by decide) (fun c_59 => ?_) (fun c_59 => ?_)
                · skip
                  obtain ⟨x_60, ex_60⟩ : ∃ y : Int32, y = iv33_6 + Int32.ofInt (-1) := ⟨_, rfl⟩
                  have rg_61 := i32_r iv33_6
                  have zx_60 : x_60.toInt = iv33_6.toInt + (-1) := by rw [ex_60]; exact i32_add rfl (by decide) (by omega) (by omega)
                  refine lv_iinc (v := x_60) (lv' := [(6, .int x_60), (5, .int iv33_5), (4, .int iv33_4), (3, .ref q_6), (0, .ref x), (1, .int i1), (2, .int i2)]) hx hb dX9_habit_100 hl (k := 0) rfl ex_60.symm (by decide) rfl (fun ls hl => ?_)
                  refine lv_goto (tgt := 33) hx hb dX9_habit_103 (by decide) ?_
                  exact ih33 iv33_4 iv33_5 x_60 _ _ L_54 h_55 (by omega) (by omega) (by omega) (by omega) (by omega) (by omega) (by omega) (by omega) ls (by omega) hW hT hM fx_7 fx_9 gq_6 pf_x_8 pf_x_13 (lv_sub hl [0, 1, 2, 3, 4, 5, 6] rfl)
                · skip
                  obtain ⟨x_62, ex_62⟩ : ∃ y : Int32, y = iv33_4 + Int32.ofInt 1 := ⟨_, rfl⟩
                  have rg_63 := i32_r iv33_4
                  have zx_62 : x_62.toInt = iv33_4.toInt + (1) := by rw [ex_62]; exact i32_add rfl (by decide) (by omega) (by omega)
                  refine lv_iinc (v := x_62) (lv' := [(4, .int x_62), (6, .int iv33_6), (5, .int iv33_5), (3, .ref q_6), (0, .ref x), (1, .int i1), (2, .int i2)]) hx hb dX9_habit_73 hl (k := 2) rfl ex_62.symm (by decide) rfl (fun ls hl => ?_)
                  refine lv_iload hx hb dX9_habit_76 (lv_at hl 2 rfl) ?_
                  refine lv_aload_n hx hb dX9_habit_78 rfl (lv_at hl 4 rfl) ?_
                  refine hk_getr hx hb hts hC_9 hown hW (gx.S hM) tt_9 12 (by decide) rfl kw_376 ⟨rfl, rfl, rfl⟩ ((hM.o gx trivial rfl).2.trans f_x_12) dX9_habit_79 ?_
                  refine lv_iload hx hb dX9_habit_82 (lv_at hl 1 rfl) ?_
                  refine hx_aaldN hx hb hW hT (gqh.S hM) tt_46 (t1 := 2) rfl ⟨by omega, by omega⟩ (pf_x_13 _ (by rw [fx_9]; exact hx_tnI (by omega) (by omega))) dX9_habit_84 (fun q_64 fq_64 gq_64 => ?_)
                  refine hx_geti hx hb hts hC_2 hown hW hT gq_64 tt_2 12 (by decide) rfl kw_751 ⟨rfl, rfl, rfl⟩ dX9_habit_85 (fun x_65 ex_65 lx_65 ux_65 => ?_)
                  have fx_65 := ex_65.symm
                  refine lv_iconst (v := 5) hx hb dX9_habit_88 (by decide) ?_
                  have jn_97 : ∀ (xj_66 : Int32) (ls : Array Slot), 0 ≤ xj_66.toInt → xj_66.toInt ≤ 1 → lv_has ls 7 [(4, .int x_62), (6, .int iv33_6), (5, .int iv33_5), (3, .ref q_6), (0, .ref x), (1, .int i1), (2, .int i2)] → W p l e ({ frames := 1, cells := 0, slots := 0, locals := 26 }) s m ([.ref x, .int i1, .int i2] : List Value).toArray below meth c H locs 0 0 (MQ below (va_Qi (fun (r : Int32) (u : List Nat × hx_h) => (True) ∧ hx_T T_tb u.1 u.2 ∧ hx_S T_tb [] L h u.1 u.2) (hx_E T_tb (P_ty dA) (dC, dI) vwCl (hx_A L sz)) (hx_A L sz)) ([.ref x, .int i1, .int i2] : List Value).toArray s 0 0 (hx_A L sz)) (F0 m 97 ls [.int xj_66, .int iv33_5]) := by
                    intro xj_66 ls blxj_66 buxj_66 hl
                    refine lv_iadd hx hb dX9_habit_97 ?_
                    have rg_67 := i32_r iv33_5
                    have rg_68 := i32_r xj_66
                    refine lv_topi (fun x_69 ex_69 => ?_)
                    have zx_69 : x_69.toInt = iv33_5.toInt + xj_66.toInt := by rw [ex_69]; exact i32_add rfl rfl (by omega) (by omega)
                    refine lv_istore (lv' := [(5, .int x_69), (4, .int x_62), (6, .int iv33_6), (3, .ref q_6), (0, .ref x), (1, .int i1), (2, .int i2)]) hx hb dX9_habit_98 hl (by decide) rfl (fun ls hl => ?_)
                    obtain ⟨x_70, ex_70⟩ : ∃ y : Int32, y = iv33_6 + Int32.ofInt (-1) := ⟨_, rfl⟩
                    have rg_71 := i32_r iv33_6
                    have zx_70 : x_70.toInt = iv33_6.toInt + (-1) := by rw [ex_70]; exact i32_add rfl (by decide) (by omega) (by omega)
                    refine lv_iinc (v := x_70) (lv' := [(6, .int x_70), (5, .int x_69), (4, .int x_62), (3, .ref q_6), (0, .ref x), (1, .int i1), (2, .int i2)]) hx hb dX9_habit_100 hl (k := 2) rfl ex_70.symm (by decide) rfl (fun ls hl => ?_)
                    refine lv_goto (tgt := 33) hx hb dX9_habit_103 (by decide) ?_
                    exact ih33 x_62 x_69 x_70 _ _ L_54 h_55 (by omega) (by omega) (by omega) (by omega) (by omega) (by omega) (by omega) (by omega) ls (by omega) hW hT hM fx_7 fx_9 gq_6 pf_x_8 pf_x_13 (lv_sub hl [0, 1, 2, 3, 4, 5, 6] rfl)
                  refine hb_icmp_ne (zx := x_65.toInt) (zy := 5) (tgt := 96) hx hb rfl (by decide) dX9_habit_89 (by decide) (fun c_72 => ?_) (fun c_72 => ?_)
                  · skip
                    refine lv_iconst (v := 0) hx hb dX9_habit_96 (by decide) ?_
                    exact jn_97 (0 : Int32) ls (by decide) (by decide) hl
                  · skip
                    refine lv_iconst (v := 1) hx hb dX9_habit_92 (by decide) ?_
                    refine lv_goto (tgt := 97) hx hb dX9_habit_93 (by decide) ?_
                    exact jn_97 (1 : Int32) ls (by decide) (by decide) hl
      have zk_0 : (0 : Int32).toInt = 0 := by decide
      have zk_0 : (0 : Int32).toInt = 0 := by decide
      exact loop33 101 (0 : Int32) (0 : Int32) x_11 _ _ L_1 h_2 (by decide) (by decide) (by decide) (by decide) (by omega) (by omega) (by omega) (by omega) ls (by omega) hW hT hM fx_7 fx_9 gq_6 pf_x_8 pf_x_13 hl
    · skip
      refine lv_iconst (v := -1) hx hb dX9_habit_17 (by decide) ?_
      exact hx_reti hx hb hr hlk hW ⟨trivial, hT, hM⟩ dX9_habit_18

def wNX9_other : Nat := 37383840969892337906776122894082990277901214579484183362801402958779329178646284519024198643593115784353747969904396604542482276869206373310437320338428213809451106257019233935829674954345322865290021178870891556720182708958741160605371124632089283423333006902055920389497244518966818127679839841307584071543135292687696181411400712731
theorem wX9_other_c : hz_cd cX9_other wNX9_other 139 := ⟨by decide +kernel, by decide +kernel⟩
theorem dX9_other_0 : decode cX9_other 0 = .ok (.iload_n 1, 1) := dw_27 wX9_other_c rfl
theorem dX9_other_1 : decode cX9_other 1 = .ok (.iconst (-1), 1) := dw_2 wX9_other_c rfl
theorem dX9_other_2 : decode cX9_other 2 = .ok (.if_icmp .lt 22, 3) := dw_161 wX9_other_c 0 22 rfl rfl rfl
theorem dX9_other_5 : decode cX9_other 5 = .ok (.iload_n 1, 1) := dw_27 wX9_other_c rfl
theorem dX9_other_6 : decode cX9_other 6 = .ok (.aload_n 0, 1) := dw_42 wX9_other_c rfl
theorem dX9_other_7 : decode cX9_other 7 = .ok (.getfield 105, 3) := dw_180 wX9_other_c 0 105 rfl rfl
theorem dX9_other_10 : decode cX9_other 10 = .ok (.if_icmp .ge 14, 3) := dw_162 wX9_other_c 0 14 rfl rfl rfl
theorem dX9_other_13 : decode cX9_other 13 = .ok (.iload_n 2, 1) := dw_28 wX9_other_c rfl
theorem dX9_other_14 : decode cX9_other 14 = .ok (.iconst 1, 1) := dw_4 wX9_other_c rfl
theorem dX9_other_15 : decode cX9_other 15 = .ok (.if_icmp .lt 9, 3) := dw_161 wX9_other_c 0 9 rfl rfl rfl
theorem dX9_other_18 : decode cX9_other 18 = .ok (.iload_n 2, 1) := dw_28 wX9_other_c rfl
theorem dX9_other_19 : decode cX9_other 19 = .ok (.bipush 6, 2) := dw_16 wX9_other_c 6 rfl rfl rfl
theorem dX9_other_21 : decode cX9_other 21 = .ok (.if_icmp .le 5, 3) := dw_164 wX9_other_c 0 5 rfl rfl rfl
theorem dX9_other_24 : decode cX9_other 24 = .ok (.iconst (-1), 1) := dw_2 wX9_other_c rfl
theorem dX9_other_25 : decode cX9_other 25 = .ok (.ireturn, 1) := dw_172 wX9_other_c rfl
theorem dX9_other_26 : decode cX9_other 26 = .ok (.iload_n 1, 1) := dw_27 wX9_other_c rfl
theorem dX9_other_27 : decode cX9_other 27 = .ok (.iconst (-1), 1) := dw_2 wX9_other_c rfl
theorem dX9_other_28 : decode cX9_other 28 = .ok (.if_icmp .ne 10, 3) := dw_160 wX9_other_c 0 10 rfl rfl rfl
theorem dX9_other_31 : decode cX9_other 31 = .ok (.aload_n 0, 1) := dw_42 wX9_other_c rfl
theorem dX9_other_32 : decode cX9_other 32 = .ok (.getfield 25, 3) := dw_180 wX9_other_c 0 25 rfl rfl
theorem dX9_other_35 : decode cX9_other 35 = .ok (.goto 9, 3) := dw_167 wX9_other_c 0 9 rfl rfl rfl
theorem dX9_other_38 : decode cX9_other 38 = .ok (.aload_n 0, 1) := dw_42 wX9_other_c rfl
theorem dX9_other_39 : decode cX9_other 39 = .ok (.getfield 29, 3) := dw_180 wX9_other_c 0 29 rfl rfl
theorem dX9_other_42 : decode cX9_other 42 = .ok (.iload_n 1, 1) := dw_27 wX9_other_c rfl
theorem dX9_other_43 : decode cX9_other 43 = .ok (.aaload, 1) := dw_50 wX9_other_c rfl
theorem dX9_other_44 : decode cX9_other 44 = .ok (.astore_n 3, 1) := dw_78 wX9_other_c rfl
theorem dX9_other_45 : decode cX9_other 45 = .ok (.iconst 0, 1) := dw_3 wX9_other_c rfl
theorem dX9_other_46 : decode cX9_other 46 = .ok (.istore 4, 2) := dw_54 wX9_other_c 4 rfl
theorem dX9_other_48 : decode cX9_other 48 = .ok (.iconst 0, 1) := dw_3 wX9_other_c rfl
theorem dX9_other_49 : decode cX9_other 49 = .ok (.istore 5, 2) := dw_54 wX9_other_c 5 rfl
theorem dX9_other_51 : decode cX9_other 51 = .ok (.iconst 0, 1) := dw_3 wX9_other_c rfl
theorem dX9_other_52 : decode cX9_other 52 = .ok (.istore 6, 2) := dw_54 wX9_other_c 6 rfl
theorem dX9_other_54 : decode cX9_other 54 = .ok (.iload 6, 2) := dw_21 wX9_other_c 6 rfl
theorem dX9_other_56 : decode cX9_other 56 = .ok (.aload_n 0, 1) := dw_42 wX9_other_c rfl
theorem dX9_other_57 : decode cX9_other 57 = .ok (.getfield 216, 3) := dw_180 wX9_other_c 0 216 rfl rfl
theorem dX9_other_60 : decode cX9_other 60 = .ok (.if_icmp .ge 66, 3) := dw_162 wX9_other_c 0 66 rfl rfl rfl
theorem dX9_other_63 : decode cX9_other 63 = .ok (.aload_n 0, 1) := dw_42 wX9_other_c rfl
theorem dX9_other_64 : decode cX9_other 64 = .ok (.aload_n 0, 1) := dw_42 wX9_other_c rfl
theorem dX9_other_65 : decode cX9_other 65 = .ok (.getfield 52, 3) := dw_180 wX9_other_c 0 52 rfl rfl
theorem dX9_other_68 : decode cX9_other 68 = .ok (.iload 6, 2) := dw_21 wX9_other_c 6 rfl
theorem dX9_other_70 : decode cX9_other 70 = .ok (.aaload, 1) := dw_50 wX9_other_c rfl
theorem dX9_other_71 : decode cX9_other 71 = .ok (.aload_n 3, 1) := dw_45 wX9_other_c rfl
theorem dX9_other_72 : decode cX9_other 72 = .ok (.invokevirtual 229, 3) := dw_182 wX9_other_c 0 229 rfl rfl
theorem dX9_other_75 : decode cX9_other 75 = .ok (.istore 7, 2) := dw_54 wX9_other_c 7 rfl
theorem dX9_other_77 : decode cX9_other 77 = .ok (.iload 4, 2) := dw_21 wX9_other_c 4 rfl
theorem dX9_other_79 : decode cX9_other 79 = .ok (.iload 7, 2) := dw_21 wX9_other_c 7 rfl
theorem dX9_other_81 : decode cX9_other 81 = .ok (.iload_n 2, 1) := dw_28 wX9_other_c rfl
theorem dX9_other_82 : decode cX9_other 82 = .ok (.if_icmp .ne 7, 3) := dw_160 wX9_other_c 0 7 rfl rfl rfl
theorem dX9_other_85 : decode cX9_other 85 = .ok (.iconst 1, 1) := dw_4 wX9_other_c rfl
theorem dX9_other_86 : decode cX9_other 86 = .ok (.goto 4, 3) := dw_167 wX9_other_c 0 4 rfl rfl rfl
theorem dX9_other_89 : decode cX9_other 89 = .ok (.iconst 0, 1) := dw_3 wX9_other_c rfl
theorem dX9_other_90 : decode cX9_other 90 = .ok (.iadd, 1) := dw_96 wX9_other_c rfl
theorem dX9_other_91 : decode cX9_other 91 = .ok (.istore 4, 2) := dw_54 wX9_other_c 4 rfl
theorem dX9_other_93 : decode cX9_other 93 = .ok (.iload 5, 2) := dw_21 wX9_other_c 5 rfl
theorem dX9_other_95 : decode cX9_other 95 = .ok (.aload_n 0, 1) := dw_42 wX9_other_c rfl
theorem dX9_other_96 : decode cX9_other 96 = .ok (.getfield 52, 3) := dw_180 wX9_other_c 0 52 rfl rfl
theorem dX9_other_99 : decode cX9_other 99 = .ok (.iload 6, 2) := dw_21 wX9_other_c 6 rfl
theorem dX9_other_101 : decode cX9_other 101 = .ok (.aaload, 1) := dw_50 wX9_other_c rfl
theorem dX9_other_102 : decode cX9_other 102 = .ok (.aload_n 3, 1) := dw_45 wX9_other_c rfl
theorem dX9_other_103 : decode cX9_other 103 = .ok (.iload 7, 2) := dw_21 wX9_other_c 7 rfl
theorem dX9_other_105 : decode cX9_other 105 = .ok (.iconst 5, 1) := dw_8 wX9_other_c rfl
theorem dX9_other_106 : decode cX9_other 106 = .ok (.if_icmp .ne 7, 3) := dw_160 wX9_other_c 0 7 rfl rfl rfl
theorem dX9_other_109 : decode cX9_other 109 = .ok (.iconst 1, 1) := dw_4 wX9_other_c rfl
theorem dX9_other_110 : decode cX9_other 110 = .ok (.goto 4, 3) := dw_167 wX9_other_c 0 4 rfl rfl rfl
theorem dX9_other_113 : decode cX9_other 113 = .ok (.iconst 0, 1) := dw_3 wX9_other_c rfl
theorem dX9_other_114 : decode cX9_other 114 = .ok (.invokevirtual 256, 3) := dw_182 wX9_other_c 1 0 rfl rfl
theorem dX9_other_117 : decode cX9_other 117 = .ok (.iadd, 1) := dw_96 wX9_other_c rfl
theorem dX9_other_118 : decode cX9_other 118 = .ok (.istore 5, 2) := dw_54 wX9_other_c 5 rfl
theorem dX9_other_120 : decode cX9_other 120 = .ok (.iinc 6 1, 3) := dw_132 wX9_other_c 6 1 rfl rfl rfl
theorem dX9_other_123 : decode cX9_other 123 = .ok (.goto (-69), 3) := dn_167 wX9_other_c 255 187 rfl (by decide)
theorem dX9_other_126 : decode cX9_other 126 = .ok (.iload_n 2, 1) := dw_28 wX9_other_c rfl
theorem dX9_other_127 : decode cX9_other 127 = .ok (.iconst 5, 1) := dw_8 wX9_other_c rfl
theorem dX9_other_128 : decode cX9_other 128 = .ok (.if_icmp .le 8, 3) := dw_164 wX9_other_c 0 8 rfl rfl rfl
theorem dX9_other_131 : decode cX9_other 131 = .ok (.iload 5, 2) := dw_21 wX9_other_c 5 rfl
theorem dX9_other_133 : decode cX9_other 133 = .ok (.goto 5, 3) := dw_167 wX9_other_c 0 5 rfl rfl rfl
theorem dX9_other_136 : decode cX9_other 136 = .ok (.iload 4, 2) := dw_21 wX9_other_c 4 rfl
theorem dX9_other_138 : decode cX9_other 138 = .ok (.ireturn, 1) := dw_172 wX9_other_c rfl
def wNX9_person : Nat := 1150623265193507310456693334782343354360843648474106012785409912690088907068082904414211678208869270546921374303407497732116320123848335014123490894775103157229845593380590389802492163071008645213435324354835859828109727593437058921604329813034
theorem wX9_person_c : hz_cd cX9_person wNX9_person 101 := ⟨by decide +kernel, by decide +kernel⟩
theorem dX9_person_0 : decode cX9_person 0 = .ok (.aload_n 0, 1) := dw_42 wX9_person_c rfl
theorem dX9_person_1 : decode cX9_person 1 = .ok (.getfield 125, 3) := dw_180 wX9_person_c 0 125 rfl rfl
theorem dX9_person_4 : decode cX9_person 4 = .ok (.bipush 40, 2) := dw_16 wX9_person_c 40 rfl rfl rfl
theorem dX9_person_6 : decode cX9_person 6 = .ok (.if_icmp .ge 39, 3) := dw_162 wX9_person_c 0 39 rfl rfl rfl
theorem dX9_person_9 : decode cX9_person 9 = .ok (.iload_n 1, 1) := dw_27 wX9_person_c rfl
theorem dX9_person_10 : decode cX9_person 10 = .ok (.sipush (-30000), 3) := dn_17 wX9_person_c 138 208 rfl (by decide)
theorem dX9_person_13 : decode cX9_person 13 = .ok (.sipush 7999, 3) := dw_17 wX9_person_c 31 63 rfl rfl rfl
theorem dX9_person_16 : decode cX9_person 16 = .ok (.invokestatic 128, 3) := dw_184 wX9_person_c 0 128 rfl rfl
theorem dX9_person_19 : decode cX9_person 19 = .ok (.ifCond .eq 26, 3) := dw_153 wX9_person_c 0 26 rfl rfl rfl
theorem dX9_person_22 : decode cX9_person 22 = .ok (.iload_n 2, 1) := dw_28 wX9_person_c rfl
theorem dX9_person_23 : decode cX9_person 23 = .ok (.iload_n 3, 1) := dw_29 wX9_person_c rfl
theorem dX9_person_24 : decode cX9_person 24 = .ok (.iload 4, 2) := dw_21 wX9_person_c 4 rfl
theorem dX9_person_26 : decode cX9_person 26 = .ok (.iload 5, 2) := dw_21 wX9_person_c 5 rfl
theorem dX9_person_28 : decode cX9_person 28 = .ok (.invokestatic 132, 3) := dw_184 wX9_person_c 0 132 rfl rfl
theorem dX9_person_31 : decode cX9_person 31 = .ok (.ifCond .eq 14, 3) := dw_153 wX9_person_c 0 14 rfl rfl rfl
theorem dX9_person_34 : decode cX9_person 34 = .ok (.iload 6, 2) := dw_21 wX9_person_c 6 rfl
theorem dX9_person_36 : decode cX9_person 36 = .ok (.iconst (-1), 1) := dw_2 wX9_person_c rfl
theorem dX9_person_37 : decode cX9_person 37 = .ok (.bipush 19, 2) := dw_16 wX9_person_c 19 rfl rfl rfl
theorem dX9_person_39 : decode cX9_person 39 = .ok (.invokestatic 128, 3) := dw_184 wX9_person_c 0 128 rfl rfl
theorem dX9_person_42 : decode cX9_person 42 = .ok (.ifCond .ne 5, 3) := dw_154 wX9_person_c 0 5 rfl rfl rfl
theorem dX9_person_45 : decode cX9_person 45 = .ok (.iconst (-1), 1) := dw_2 wX9_person_c rfl
theorem dX9_person_46 : decode cX9_person 46 = .ok (.ireturn, 1) := dw_172 wX9_person_c rfl
theorem dX9_person_47 : decode cX9_person 47 = .ok (.new 33, 3) := dw_187 wX9_person_c 0 33 rfl rfl
theorem dX9_person_50 : decode cX9_person 50 = .ok (.dup, 1) := dw_89 wX9_person_c rfl
theorem dX9_person_51 : decode cX9_person 51 = .ok (.aload_n 0, 1) := dw_42 wX9_person_c rfl
theorem dX9_person_52 : decode cX9_person 52 = .ok (.getfield 125, 3) := dw_180 wX9_person_c 0 125 rfl rfl
theorem dX9_person_55 : decode cX9_person 55 = .ok (.iload_n 1, 1) := dw_27 wX9_person_c rfl
theorem dX9_person_56 : decode cX9_person 56 = .ok (.iload 6, 2) := dw_21 wX9_person_c 6 rfl
theorem dX9_person_58 : decode cX9_person 58 = .ok (.invokespecial 136, 3) := dw_183 wX9_person_c 0 136 rfl rfl
theorem dX9_person_61 : decode cX9_person 61 = .ok (.astore 7, 2) := dw_58 wX9_person_c 7 rfl
theorem dX9_person_63 : decode cX9_person 63 = .ok (.aload 7, 2) := dw_25 wX9_person_c 7 rfl
theorem dX9_person_65 : decode cX9_person 65 = .ok (.iload_n 2, 1) := dw_28 wX9_person_c rfl
theorem dX9_person_66 : decode cX9_person 66 = .ok (.iload_n 3, 1) := dw_29 wX9_person_c rfl
theorem dX9_person_67 : decode cX9_person 67 = .ok (.iload 4, 2) := dw_21 wX9_person_c 4 rfl
theorem dX9_person_69 : decode cX9_person 69 = .ok (.iload 5, 2) := dw_21 wX9_person_c 5 rfl
theorem dX9_person_71 : decode cX9_person 71 = .ok (.invokevirtual 139, 3) := dw_182 wX9_person_c 0 139 rfl rfl
theorem dX9_person_74 : decode cX9_person 74 = .ok (.aload_n 0, 1) := dw_42 wX9_person_c rfl
theorem dX9_person_75 : decode cX9_person 75 = .ok (.getfield 35, 3) := dw_180 wX9_person_c 0 35 rfl rfl
theorem dX9_person_78 : decode cX9_person 78 = .ok (.aload_n 0, 1) := dw_42 wX9_person_c rfl
theorem dX9_person_79 : decode cX9_person 79 = .ok (.getfield 125, 3) := dw_180 wX9_person_c 0 125 rfl rfl
theorem dX9_person_82 : decode cX9_person 82 = .ok (.aload 7, 2) := dw_25 wX9_person_c 7 rfl
theorem dX9_person_84 : decode cX9_person 84 = .ok (.aastore, 1) := dw_83 wX9_person_c rfl
theorem dX9_person_85 : decode cX9_person 85 = .ok (.aload_n 0, 1) := dw_42 wX9_person_c rfl
theorem dX9_person_86 : decode cX9_person 86 = .ok (.dup, 1) := dw_89 wX9_person_c rfl
theorem dX9_person_87 : decode cX9_person 87 = .ok (.getfield 125, 3) := dw_180 wX9_person_c 0 125 rfl rfl
theorem dX9_person_90 : decode cX9_person 90 = .ok (.iconst 1, 1) := dw_4 wX9_person_c rfl
theorem dX9_person_91 : decode cX9_person 91 = .ok (.iadd, 1) := dw_96 wX9_person_c rfl
theorem dX9_person_92 : decode cX9_person 92 = .ok (.putfield 125, 3) := dw_181 wX9_person_c 0 125 rfl rfl
theorem dX9_person_95 : decode cX9_person 95 = .ok (.aload 7, 2) := dw_25 wX9_person_c 7 rfl
theorem dX9_person_97 : decode cX9_person 97 = .ok (.getfield 143, 3) := dw_180 wX9_person_c 0 143 rfl rfl
theorem dX9_person_100 : decode cX9_person 100 = .ok (.ireturn, 1) := dw_172 wX9_person_c rfl