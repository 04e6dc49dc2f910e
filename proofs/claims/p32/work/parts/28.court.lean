section
def wNX9_hear : Nat := 1076197888589452097072378502574154629288040183240453855028010337470796030708443713114909455789954857568836588605385724195074896485600502493719640697290272823049599878085511109295705424314258871871965659450158539520381322777573771889388221100832777797342636671065000713477494353180229490304114710604304968169821074738097612895699138307178590155994599242904062722154998618230198129218212454377964720131124965905703919240830221581343679640643240973561808385235181592763143139869113139400218671129499670370351708275802708801845413648065289418781905910385942165611363795474415590662523460394
theorem wX9_hear_c : hz_cd cX9_hear wNX9_hear 243 := ⟨by decide +kernel, by decide +kernel⟩
theorem dX9_hear_0 : decode cX9_hear 0 = .ok (.aload_n 0, 1) := dw_42 wX9_hear_c rfl
theorem dX9_hear_1 : decode cX9_hear 1 = .ok (.iload_n 1, 1) := dw_27 wX9_hear_c rfl
theorem dX9_hear_2 : decode cX9_hear 2 = .ok (.invokevirtual 200, 3) := dw_182 wX9_hear_c 0 200 rfl rfl
theorem dX9_hear_5 : decode cX9_hear 5 = .ok (.astore 5, 2) := dw_58 wX9_hear_c 5 rfl
theorem dX9_hear_7 : decode cX9_hear 7 = .ok (.aload 5, 2) := dw_25 wX9_hear_c 5 rfl
theorem dX9_hear_9 : decode cX9_hear 9 = .ok (.ifnull 57, 3) := dw_198 wX9_hear_c 0 57 rfl rfl rfl
theorem dX9_hear_12 : decode cX9_hear 12 = .ok (.aload 5, 2) := dw_25 wX9_hear_c 5 rfl
theorem dX9_hear_14 : decode cX9_hear 14 = .ok (.getfield 204, 3) := dw_180 wX9_hear_c 0 204 rfl rfl
theorem dX9_hear_17 : decode cX9_hear 17 = .ok (.iconst (-1), 1) := dw_2 wX9_hear_c rfl
theorem dX9_hear_18 : decode cX9_hear 18 = .ok (.if_icmp .eq 48, 3) := dw_159 wX9_hear_c 0 48 rfl rfl rfl
theorem dX9_hear_21 : decode cX9_hear 21 = .ok (.aload 5, 2) := dw_25 wX9_hear_c 5 rfl
theorem dX9_hear_23 : decode cX9_hear 23 = .ok (.getfield 210, 3) := dw_180 wX9_hear_c 0 210 rfl rfl
theorem dX9_hear_26 : decode cX9_hear 26 = .ok (.iconst (-1), 1) := dw_2 wX9_hear_c rfl
theorem dX9_hear_27 : decode cX9_hear 27 = .ok (.if_icmp .ne 39, 3) := dw_160 wX9_hear_c 0 39 rfl rfl rfl
theorem dX9_hear_30 : decode cX9_hear 30 = .ok (.aload 5, 2) := dw_25 wX9_hear_c 5 rfl
theorem dX9_hear_32 : decode cX9_hear 32 = .ok (.getfield 212, 3) := dw_180 wX9_hear_c 0 212 rfl rfl
theorem dX9_hear_35 : decode cX9_hear 35 = .ok (.getfield 148, 3) := dw_180 wX9_hear_c 0 148 rfl rfl
theorem dX9_hear_38 : decode cX9_hear 38 = .ok (.ifCond .ne 28, 3) := dw_154 wX9_hear_c 0 28 rfl rfl rfl
theorem dX9_hear_41 : decode cX9_hear 41 = .ok (.iload 4, 2) := dw_21 wX9_hear_c 4 rfl
theorem dX9_hear_43 : decode cX9_hear 43 = .ok (.ifCond .lt 23, 3) := dw_155 wX9_hear_c 0 23 rfl rfl rfl
theorem dX9_hear_46 : decode cX9_hear 46 = .ok (.aload_n 0, 1) := dw_42 wX9_hear_c rfl
theorem dX9_hear_47 : decode cX9_hear 47 = .ok (.getfield 216, 3) := dw_180 wX9_hear_c 0 216 rfl rfl
theorem dX9_hear_50 : decode cX9_hear 50 = .ok (.bipush 100, 2) := dw_16 wX9_hear_c 100 rfl rfl rfl
theorem dX9_hear_52 : decode cX9_hear 52 = .ok (.if_icmp .ge 14, 3) := dw_162 wX9_hear_c 0 14 rfl rfl rfl
theorem dX9_hear_55 : decode cX9_hear 55 = .ok (.aload_n 0, 1) := dw_42 wX9_hear_c rfl
theorem dX9_hear_56 : decode cX9_hear 56 = .ok (.aload 5, 2) := dw_25 wX9_hear_c 5 rfl
theorem dX9_hear_58 : decode cX9_hear 58 = .ok (.iload 4, 2) := dw_21 wX9_hear_c 4 rfl
theorem dX9_hear_60 : decode cX9_hear 60 = .ok (.invokevirtual 219, 3) := dw_182 wX9_hear_c 0 219 rfl rfl
theorem dX9_hear_63 : decode cX9_hear 63 = .ok (.ifCond .ne 5, 3) := dw_154 wX9_hear_c 0 5 rfl rfl rfl
theorem dX9_hear_66 : decode cX9_hear 66 = .ok (.iconst (-1), 1) := dw_2 wX9_hear_c rfl
theorem dX9_hear_67 : decode cX9_hear 67 = .ok (.ireturn, 1) := dw_172 wX9_hear_c rfl
theorem dX9_hear_68 : decode cX9_hear 68 = .ok (.aload 5, 2) := dw_25 wX9_hear_c 5 rfl
theorem dX9_hear_70 : decode cX9_hear 70 = .ok (.getfield 223, 3) := dw_180 wX9_hear_c 0 223 rfl rfl
theorem dX9_hear_73 : decode cX9_hear 73 = .ok (.getfield 143, 3) := dw_180 wX9_hear_c 0 143 rfl rfl
theorem dX9_hear_76 : decode cX9_hear 76 = .ok (.istore 6, 2) := dw_54 wX9_hear_c 6 rfl
theorem dX9_hear_78 : decode cX9_hear 78 = .ok (.aload 5, 2) := dw_25 wX9_hear_c 5 rfl
theorem dX9_hear_80 : decode cX9_hear 80 = .ok (.getfield 212, 3) := dw_180 wX9_hear_c 0 212 rfl rfl
theorem dX9_hear_83 : decode cX9_hear 83 = .ok (.getfield 143, 3) := dw_180 wX9_hear_c 0 143 rfl rfl
theorem dX9_hear_86 : decode cX9_hear 86 = .ok (.istore 7, 2) := dw_54 wX9_hear_c 7 rfl
theorem dX9_hear_88 : decode cX9_hear 88 = .ok (.aload 5, 2) := dw_25 wX9_hear_c 5 rfl
theorem dX9_hear_90 : decode cX9_hear 90 = .ok (.getfield 196, 3) := dw_180 wX9_hear_c 0 196 rfl rfl
theorem dX9_hear_93 : decode cX9_hear 93 = .ok (.iconst 0, 1) := dw_3 wX9_hear_c rfl
theorem dX9_hear_94 : decode cX9_hear 94 = .ok (.iload_n 2, 1) := dw_28 wX9_hear_c rfl
theorem dX9_hear_95 : decode cX9_hear 95 = .ok (.ifCond .eq 7, 3) := dw_153 wX9_hear_c 0 7 rfl rfl rfl
theorem dX9_hear_98 : decode cX9_hear 98 = .ok (.iconst 1, 1) := dw_4 wX9_hear_c rfl
theorem dX9_hear_99 : decode cX9_hear 99 = .ok (.goto 4, 3) := dw_167 wX9_hear_c 0 4 rfl rfl rfl
theorem dX9_hear_102 : decode cX9_hear 102 = .ok (.iconst 0, 1) := dw_3 wX9_hear_c rfl
theorem dX9_hear_103 : decode cX9_hear 103 = .ok (.iastore, 1) := dw_79 wX9_hear_c rfl
theorem dX9_hear_104 : decode cX9_hear 104 = .ok (.aload 5, 2) := dw_25 wX9_hear_c 5 rfl
theorem dX9_hear_106 : decode cX9_hear 106 = .ok (.getfield 196, 3) := dw_180 wX9_hear_c 0 196 rfl rfl
theorem dX9_hear_109 : decode cX9_hear 109 = .ok (.iconst 1, 1) := dw_4 wX9_hear_c rfl
theorem dX9_hear_110 : decode cX9_hear 110 = .ok (.iload_n 3, 1) := dw_29 wX9_hear_c rfl
theorem dX9_hear_111 : decode cX9_hear 111 = .ok (.ifCond .eq 7, 3) := dw_153 wX9_hear_c 0 7 rfl rfl rfl
theorem dX9_hear_114 : decode cX9_hear 114 = .ok (.iconst 1, 1) := dw_4 wX9_hear_c rfl
theorem dX9_hear_115 : decode cX9_hear 115 = .ok (.goto 4, 3) := dw_167 wX9_hear_c 0 4 rfl rfl rfl
theorem dX9_hear_118 : decode cX9_hear 118 = .ok (.iconst 0, 1) := dw_3 wX9_hear_c rfl
theorem dX9_hear_119 : decode cX9_hear 119 = .ok (.iastore, 1) := dw_79 wX9_hear_c rfl
theorem dX9_hear_120 : decode cX9_hear 120 = .ok (.aload 5, 2) := dw_25 wX9_hear_c 5 rfl
theorem dX9_hear_122 : decode cX9_hear 122 = .ok (.getfield 196, 3) := dw_180 wX9_hear_c 0 196 rfl rfl
theorem dX9_hear_125 : decode cX9_hear 125 = .ok (.iconst 4, 1) := dw_7 wX9_hear_c rfl
theorem dX9_hear_126 : decode cX9_hear 126 = .ok (.aload_n 0, 1) := dw_42 wX9_hear_c rfl
theorem dX9_hear_127 : decode cX9_hear 127 = .ok (.getfield 42, 3) := dw_180 wX9_hear_c 0 42 rfl rfl
theorem dX9_hear_130 : decode cX9_hear 130 = .ok (.iload 6, 2) := dw_21 wX9_hear_c 6 rfl
theorem dX9_hear_132 : decode cX9_hear 132 = .ok (.iload 7, 2) := dw_21 wX9_hear_c 7 rfl
theorem dX9_hear_134 : decode cX9_hear 134 = .ok (.aload 5, 2) := dw_25 wX9_hear_c 5 rfl
theorem dX9_hear_136 : decode cX9_hear 136 = .ok (.getfield 193, 3) := dw_180 wX9_hear_c 0 193 rfl rfl
theorem dX9_hear_139 : decode cX9_hear 139 = .ok (.invokevirtual 170, 3) := dw_182 wX9_hear_c 0 170 rfl rfl
theorem dX9_hear_142 : decode cX9_hear 142 = .ok (.iastore, 1) := dw_79 wX9_hear_c rfl
theorem dX9_hear_143 : decode cX9_hear 143 = .ok (.aload 5, 2) := dw_25 wX9_hear_c 5 rfl
theorem dX9_hear_145 : decode cX9_hear 145 = .ok (.getfield 196, 3) := dw_180 wX9_hear_c 0 196 rfl rfl
theorem dX9_hear_148 : decode cX9_hear 148 = .ok (.iconst 5, 1) := dw_8 wX9_hear_c rfl
theorem dX9_hear_149 : decode cX9_hear 149 = .ok (.aload_n 0, 1) := dw_42 wX9_hear_c rfl
theorem dX9_hear_150 : decode cX9_hear 150 = .ok (.getfield 42, 3) := dw_180 wX9_hear_c 0 42 rfl rfl
theorem dX9_hear_153 : decode cX9_hear 153 = .ok (.iload 7, 2) := dw_21 wX9_hear_c 7 rfl
theorem dX9_hear_155 : decode cX9_hear 155 = .ok (.iload 6, 2) := dw_21 wX9_hear_c 6 rfl
theorem dX9_hear_157 : decode cX9_hear 157 = .ok (.aload 5, 2) := dw_25 wX9_hear_c 5 rfl
theorem dX9_hear_159 : decode cX9_hear 159 = .ok (.getfield 193, 3) := dw_180 wX9_hear_c 0 193 rfl rfl
theorem dX9_hear_162 : decode cX9_hear 162 = .ok (.invokevirtual 170, 3) := dw_182 wX9_hear_c 0 170 rfl rfl
theorem dX9_hear_165 : decode cX9_hear 165 = .ok (.ineg, 1) := dw_116 wX9_hear_c rfl
theorem dX9_hear_166 : decode cX9_hear 166 = .ok (.iastore, 1) := dw_79 wX9_hear_c rfl
theorem dX9_hear_167 : decode cX9_hear 167 = .ok (.aload 5, 2) := dw_25 wX9_hear_c 5 rfl
theorem dX9_hear_169 : decode cX9_hear 169 = .ok (.getfield 196, 3) := dw_180 wX9_hear_c 0 196 rfl rfl
theorem dX9_hear_172 : decode cX9_hear 172 = .ok (.bipush 6, 2) := dw_16 wX9_hear_c 6 rfl rfl rfl
theorem dX9_hear_174 : decode cX9_hear 174 = .ok (.aload_n 0, 1) := dw_42 wX9_hear_c rfl
theorem dX9_hear_175 : decode cX9_hear 175 = .ok (.getfield 42, 3) := dw_180 wX9_hear_c 0 42 rfl rfl
theorem dX9_hear_178 : decode cX9_hear 178 = .ok (.iload 6, 2) := dw_21 wX9_hear_c 6 rfl
theorem dX9_hear_180 : decode cX9_hear 180 = .ok (.iload 7, 2) := dw_21 wX9_hear_c 7 rfl
theorem dX9_hear_182 : decode cX9_hear 182 = .ok (.aload 5, 2) := dw_25 wX9_hear_c 5 rfl
theorem dX9_hear_184 : decode cX9_hear 184 = .ok (.getfield 193, 3) := dw_180 wX9_hear_c 0 193 rfl rfl
theorem dX9_hear_187 : decode cX9_hear 187 = .ok (.invokevirtual 174, 3) := dw_182 wX9_hear_c 0 174 rfl rfl
theorem dX9_hear_190 : decode cX9_hear 190 = .ok (.iastore, 1) := dw_79 wX9_hear_c rfl
theorem dX9_hear_191 : decode cX9_hear 191 = .ok (.aload 5, 2) := dw_25 wX9_hear_c 5 rfl
theorem dX9_hear_193 : decode cX9_hear 193 = .ok (.aload_n 0, 1) := dw_42 wX9_hear_c rfl
theorem dX9_hear_194 : decode cX9_hear 194 = .ok (.getfield 94, 3) := dw_180 wX9_hear_c 0 94 rfl rfl
theorem dX9_hear_197 : decode cX9_hear 197 = .ok (.putfield 210, 3) := dw_181 wX9_hear_c 0 210 rfl rfl
theorem dX9_hear_200 : decode cX9_hear 200 = .ok (.aload 5, 2) := dw_25 wX9_hear_c 5 rfl
theorem dX9_hear_202 : decode cX9_hear 202 = .ok (.aload_n 0, 1) := dw_42 wX9_hear_c rfl
theorem dX9_hear_203 : decode cX9_hear 203 = .ok (.aload 5, 2) := dw_25 wX9_hear_c 5 rfl
theorem dX9_hear_205 : decode cX9_hear 205 = .ok (.aload 5, 2) := dw_25 wX9_hear_c 5 rfl
theorem dX9_hear_207 : decode cX9_hear 207 = .ok (.getfield 226, 3) := dw_180 wX9_hear_c 0 226 rfl rfl
theorem dX9_hear_210 : decode cX9_hear 210 = .ok (.invokevirtual 229, 3) := dw_182 wX9_hear_c 0 229 rfl rfl
theorem dX9_hear_213 : decode cX9_hear 213 = .ok (.putfield 233, 3) := dw_181 wX9_hear_c 0 233 rfl rfl
theorem dX9_hear_216 : decode cX9_hear 216 = .ok (.aload_n 0, 1) := dw_42 wX9_hear_c rfl
theorem dX9_hear_217 : decode cX9_hear 217 = .ok (.getfield 52, 3) := dw_180 wX9_hear_c 0 52 rfl rfl
theorem dX9_hear_220 : decode cX9_hear 220 = .ok (.aload_n 0, 1) := dw_42 wX9_hear_c rfl
theorem dX9_hear_221 : decode cX9_hear 221 = .ok (.getfield 216, 3) := dw_180 wX9_hear_c 0 216 rfl rfl
theorem dX9_hear_224 : decode cX9_hear 224 = .ok (.aload 5, 2) := dw_25 wX9_hear_c 5 rfl
theorem dX9_hear_226 : decode cX9_hear 226 = .ok (.aastore, 1) := dw_83 wX9_hear_c rfl
theorem dX9_hear_227 : decode cX9_hear 227 = .ok (.aload_n 0, 1) := dw_42 wX9_hear_c rfl
theorem dX9_hear_228 : decode cX9_hear 228 = .ok (.dup, 1) := dw_89 wX9_hear_c rfl
theorem dX9_hear_229 : decode cX9_hear 229 = .ok (.getfield 216, 3) := dw_180 wX9_hear_c 0 216 rfl rfl
theorem dX9_hear_232 : decode cX9_hear 232 = .ok (.iconst 1, 1) := dw_4 wX9_hear_c rfl
theorem dX9_hear_233 : decode cX9_hear 233 = .ok (.iadd, 1) := dw_96 wX9_hear_c rfl
theorem dX9_hear_234 : decode cX9_hear 234 = .ok (.putfield 216, 3) := dw_181 wX9_hear_c 0 216 rfl rfl
theorem dX9_hear_237 : decode cX9_hear 237 = .ok (.aload 5, 2) := dw_25 wX9_hear_c 5 rfl
theorem dX9_hear_239 : decode cX9_hear 239 = .ok (.getfield 233, 3) := dw_180 wX9_hear_c 0 233 rfl rfl
theorem dX9_hear_242 : decode cX9_hear 242 = .ok (.ireturn, 1) := dw_172 wX9_hear_c rfl
def wNX9_isBeyondDoubt : Nat := 2306300905568338808749083372776410577772263442645137863403636072158270992707115813706546286943169582762554812597349012242040264406303058368540187673248809225
theorem wX9_isBeyondDoubt_c : hz_cd cX9_isBeyondDoubt wNX9_isBeyondDoubt 65 := ⟨by decide +kernel, by decide +kernel⟩
theorem dX9_isBeyondDoubt_0 : decode cX9_isBeyondDoubt 0 = .ok (.lconst 0, 1) := dw_9 wX9_isBeyondDoubt_c rfl
theorem dX9_isBeyondDoubt_1 : decode cX9_isBeyondDoubt 1 = .ok (.lstore_n 2, 1) := dw_65 wX9_isBeyondDoubt_c rfl
theorem dX9_isBeyondDoubt_2 : decode cX9_isBeyondDoubt 2 = .ok (.lconst 1, 1) := dw_10 wX9_isBeyondDoubt_c rfl
theorem dX9_isBeyondDoubt_3 : decode cX9_isBeyondDoubt 3 = .ok (.lstore 4, 2) := dw_55 wX9_isBeyondDoubt_c 4 rfl
theorem dX9_isBeyondDoubt_5 : decode cX9_isBeyondDoubt 5 = .ok (.iconst 0, 1) := dw_3 wX9_isBeyondDoubt_c rfl
theorem dX9_isBeyondDoubt_6 : decode cX9_isBeyondDoubt 6 = .ok (.istore 6, 2) := dw_54 wX9_isBeyondDoubt_c 6 rfl
theorem dX9_isBeyondDoubt_8 : decode cX9_isBeyondDoubt 8 = .ok (.iload 6, 2) := dw_21 wX9_isBeyondDoubt_c 6 rfl
theorem dX9_isBeyondDoubt_10 : decode cX9_isBeyondDoubt 10 = .ok (.iload_n 0, 1) := dw_26 wX9_isBeyondDoubt_c rfl
theorem dX9_isBeyondDoubt_11 : decode cX9_isBeyondDoubt 11 = .ok (.if_icmp .gt 36, 3) := dw_163 wX9_isBeyondDoubt_c 0 36 rfl rfl rfl
theorem dX9_isBeyondDoubt_14 : decode cX9_isBeyondDoubt 14 = .ok (.iload 6, 2) := dw_21 wX9_isBeyondDoubt_c 6 rfl
theorem dX9_isBeyondDoubt_16 : decode cX9_isBeyondDoubt 16 = .ok (.iload_n 1, 1) := dw_27 wX9_isBeyondDoubt_c rfl
theorem dX9_isBeyondDoubt_17 : decode cX9_isBeyondDoubt 17 = .ok (.if_icmp .lt 8, 3) := dw_161 wX9_isBeyondDoubt_c 0 8 rfl rfl rfl
theorem dX9_isBeyondDoubt_20 : decode cX9_isBeyondDoubt 20 = .ok (.lload_n 2, 1) := dw_32 wX9_isBeyondDoubt_c rfl
theorem dX9_isBeyondDoubt_21 : decode cX9_isBeyondDoubt 21 = .ok (.lload 4, 2) := dw_22 wX9_isBeyondDoubt_c 4 rfl
theorem dX9_isBeyondDoubt_23 : decode cX9_isBeyondDoubt 23 = .ok (.ladd, 1) := dw_97 wX9_isBeyondDoubt_c rfl
theorem dX9_isBeyondDoubt_24 : decode cX9_isBeyondDoubt 24 = .ok (.lstore_n 2, 1) := dw_65 wX9_isBeyondDoubt_c rfl
theorem dX9_isBeyondDoubt_25 : decode cX9_isBeyondDoubt 25 = .ok (.lload 4, 2) := dw_22 wX9_isBeyondDoubt_c 4 rfl
theorem dX9_isBeyondDoubt_27 : decode cX9_isBeyondDoubt 27 = .ok (.iload_n 0, 1) := dw_26 wX9_isBeyondDoubt_c rfl
theorem dX9_isBeyondDoubt_28 : decode cX9_isBeyondDoubt 28 = .ok (.iload 6, 2) := dw_21 wX9_isBeyondDoubt_c 6 rfl
theorem dX9_isBeyondDoubt_30 : decode cX9_isBeyondDoubt 30 = .ok (.isub, 1) := dw_100 wX9_isBeyondDoubt_c rfl
theorem dX9_isBeyondDoubt_31 : decode cX9_isBeyondDoubt 31 = .ok (.i2l, 1) := dw_133 wX9_isBeyondDoubt_c rfl
theorem dX9_isBeyondDoubt_32 : decode cX9_isBeyondDoubt 32 = .ok (.lmul, 1) := dw_105 wX9_isBeyondDoubt_c rfl
theorem dX9_isBeyondDoubt_33 : decode cX9_isBeyondDoubt 33 = .ok (.iload 6, 2) := dw_21 wX9_isBeyondDoubt_c 6 rfl
theorem dX9_isBeyondDoubt_35 : decode cX9_isBeyondDoubt 35 = .ok (.iconst 1, 1) := dw_4 wX9_isBeyondDoubt_c rfl
theorem dX9_isBeyondDoubt_36 : decode cX9_isBeyondDoubt 36 = .ok (.iadd, 1) := dw_96 wX9_isBeyondDoubt_c rfl
theorem dX9_isBeyondDoubt_37 : decode cX9_isBeyondDoubt 37 = .ok (.i2l, 1) := dw_133 wX9_isBeyondDoubt_c rfl
theorem dX9_isBeyondDoubt_38 : decode cX9_isBeyondDoubt 38 = .ok (.ldiv, 1) := dw_109 wX9_isBeyondDoubt_c rfl
theorem dX9_isBeyondDoubt_39 : decode cX9_isBeyondDoubt 39 = .ok (.lstore 4, 2) := dw_55 wX9_isBeyondDoubt_c 4 rfl
theorem dX9_isBeyondDoubt_41 : decode cX9_isBeyondDoubt 41 = .ok (.iinc 6 1, 3) := dw_132 wX9_isBeyondDoubt_c 6 1 rfl rfl rfl
theorem dX9_isBeyondDoubt_44 : decode cX9_isBeyondDoubt 44 = .ok (.goto (-36), 3) := dn_167 wX9_isBeyondDoubt_c 255 220 rfl (by decide)
theorem dX9_isBeyondDoubt_47 : decode cX9_isBeyondDoubt 47 = .ok (.lload_n 2, 1) := dw_32 wX9_isBeyondDoubt_c rfl
theorem dX9_isBeyondDoubt_48 : decode cX9_isBeyondDoubt 48 = .ok (.lconst 1, 1) := dw_10 wX9_isBeyondDoubt_c rfl
theorem dX9_isBeyondDoubt_49 : decode cX9_isBeyondDoubt 49 = .ok (.iload_n 0, 1) := dw_26 wX9_isBeyondDoubt_c rfl
theorem dX9_isBeyondDoubt_50 : decode cX9_isBeyondDoubt 50 = .ok (.lshl, 1) := dw_121 wX9_isBeyondDoubt_c rfl
theorem dX9_isBeyondDoubt_51 : decode cX9_isBeyondDoubt 51 = .ok (.ldc2_w 403, 3) := dw_20 wX9_isBeyondDoubt_c 1 147 rfl rfl
theorem dX9_isBeyondDoubt_54 : decode cX9_isBeyondDoubt 54 = .ok (.ldiv, 1) := dw_109 wX9_isBeyondDoubt_c rfl
theorem dX9_isBeyondDoubt_55 : decode cX9_isBeyondDoubt 55 = .ok (.lcmp, 1) := dw_148 wX9_isBeyondDoubt_c rfl
theorem dX9_isBeyondDoubt_56 : decode cX9_isBeyondDoubt 56 = .ok (.ifCond .gt 7, 3) := dw_157 wX9_isBeyondDoubt_c 0 7 rfl rfl rfl
theorem dX9_isBeyondDoubt_59 : decode cX9_isBeyondDoubt 59 = .ok (.iconst 1, 1) := dw_4 wX9_isBeyondDoubt_c rfl
theorem dX9_isBeyondDoubt_60 : decode cX9_isBeyondDoubt 60 = .ok (.goto 4, 3) := dw_167 wX9_isBeyondDoubt_c 0 4 rfl rfl rfl
theorem dX9_isBeyondDoubt_63 : decode cX9_isBeyondDoubt 63 = .ok (.iconst 0, 1) := dw_3 wX9_isBeyondDoubt_c rfl
theorem dX9_isBeyondDoubt_64 : decode cX9_isBeyondDoubt 64 = .ok (.ireturn, 1) := dw_172 wX9_isBeyondDoubt_c rfl
set_option maxHeartbeats 4000000 in
set_option maxRecDepth 100000 in
theorem t_X9_isBeyondDoubt (l : Launch) (dC : Nat → ClassId) (dI : Nat → Nat → Nat) (dA : Nat → ClassId) (L : List Nat) (h : hx_h) (sz : Nat) (i1 : Int32) (i2 : Int32) (hT : hx_T T_tb L h)  (hi1 : 0 ≤ i1.toInt ∧ i1.toInt ≤ 60) : Met l yX9_isBeyondDoubt (Cond.code yX9_isBeyondDoubt cX9_isBeyondDoubt 7 (some .boolean) :: hx_all) ({ frames := 0, cells := 0, slots := 0, locals := 0 }) (va_Pc [.int i1, .int i2] (hx_B T_tb (P_ty dA) (dC, dI) vwCl L h sz)) (va_Qi (fun (r : Int32) (u : List Nat × hx_h) => (r.toInt = 0 ∨ r.toInt = 1) ∧ hx_T T_tb u.1 u.2 ∧ hx_S T_tb [] L h u.1 u.2) (hx_E T_tb (P_ty dA) (dC, dI) vwCl (hx_A L sz)) (hx_A L sz)) 0 0 (hx_A L sz) := by
  refine hx_met (lv := [(0, .int i1), (1, .int i2)]) (by decide +kernel) rfl (Nat.le_of_ble_eq_true rfl) rfl ?_
  intro p e s m below meth c hx hb hml hr hlk hts0 hown hin hsz hW ls hl
  have hts : ∀ w ∈ hx_all, w.before _ s = true := fun w hw => hts0 w (List.mem_cons_of_mem _ hw)
  have hown : s.vm.findClass "SmallCourt" = some m.cls := hown
  have hM : hx_S T_tb [] L h L h := hx_S.rf
  refine lv_lconst (v := 0) hx hb dX9_isBeyondDoubt_0 ?o0 ?_
  case o0 => decide
  refine lv_lstore_n (lv' := [(2, .long (0 : Int64)), (0, .int i1), (1, .int i2)]) hx hb dX9_isBeyondDoubt_1 rfl hl ?o1 rfl (fun ls hl => ?_)
  case o1 => decide
  refine lv_lconst (v := 1) hx hb dX9_isBeyondDoubt_2 ?o2 ?_
  case o2 => decide
  refine lv_lstore (lv' := [(4, .long (1 : Int64)), (2, .long (0 : Int64)), (0, .int i1), (1, .int i2)]) hx hb dX9_isBeyondDoubt_3 hl ?o3 rfl (fun ls hl => ?_)
  case o3 => decide
  refine lv_iconst (v := 0) hx hb dX9_isBeyondDoubt_5 ?o4 ?_
  case o4 => decide
  refine lv_istore (lv' := [(6, .int (0 : Int32)), (4, .long (1 : Int64)), (2, .long (0 : Int64)), (0, .int i1), (1, .int i2)]) hx hb dX9_isBeyondDoubt_6 hl ?o5 rfl (fun ls hl => ?_)
  case o5 => decide
  have loop8 : ∀ (n8 : Nat) (iv8_6 : Int32) (iv8_4 iv8_2 : Int64) (H : Heap) (locs : List Loc) (hL1 : List Nat) (hl1 : hx_h), 0 ≤ iv8_6.toInt → iv8_6.toInt ≤ 61 → ∀ (ls : Array Slot), 61 - iv8_6.toInt < (n8 : Int) → hx_W T_tb (P_ty dA) (dC, dI) vwCl (hx_A L sz) s.heap hL1 hl1 s H locs → hx_T T_tb hL1 hl1 → hx_S T_tb [] L h hL1 hl1 → lv_has ls 7 [(6, .int iv8_6), (4, .long iv8_4), (2, .long iv8_2), (0, .int i1), (1, .int i2)] → W p l e ({ frames := 0, cells := 0, slots := 0, locals := 0 }) s m ([.int i1, .int i2] : List Value).toArray below meth c H locs 0 0 (MQ below (va_Qi (fun (r : Int32) (u : List Nat × hx_h) => (r.toInt = 0 ∨ r.toInt = 1) ∧ hx_T T_tb u.1 u.2 ∧ hx_S T_tb [] L h u.1 u.2) (hx_E T_tb (P_ty dA) (dC, dI) vwCl (hx_A L sz)) (hx_A L sz)) ([.int i1, .int i2] : List Value).toArray s 0 0 (hx_A L sz)) (F0 m 8 ls []) := by
    intro n8
    induction n8 with
    | zero => intro iv8_6 iv8_4 iv8_2 H locs hL1 hl1 bliv8_6 buiv8_6  ls hn8; exfalso; omega
    | succ n8 ih8 =>
      intro iv8_6 iv8_4 iv8_2 H locs hL1 hl1 bliv8_6 buiv8_6  ls hn8 hW hT hM   hl
      refine lv_iload hx hb dX9_isBeyondDoubt_8 (lv_at hl 0 rfl) ?_
      refine lv_iload_n hx hb dX9_isBeyondDoubt_10 rfl (lv_at hl 3 rfl) ?_
      refine hb_icmp_gt (zx := iv8_6.toInt) (zy := i1.toInt) (tgt := 47) hx hb rfl rfl dX9_isBeyondDoubt_11 ?o6 (fun c_1 => ?_) (fun c_1 => ?_)
      case o6 => decide
      · skip
        refine lv_lload_n hx hb dX9_isBeyondDoubt_47 rfl (lv_at hl 2 rfl) ?_
        refine lv_lconst (v := 1) hx hb dX9_isBeyondDoubt_48 ?o7 ?_
        case o7 => decide
        refine lv_iload_n hx hb dX9_isBeyondDoubt_49 rfl (lv_at hl 3 rfl) ?_
        refine lv_lshl hx hb dX9_isBeyondDoubt_50 rfl ?_
        refine lv_topl (fun x_2 ex_2 => ?_)
        refine lv_ldc2 (v := 20) hx hb hown (hts _ kw_1100) dX9_isBeyondDoubt_51 ?_
        refine lv_ldiv hx hb dX9_isBeyondDoubt_54 ?o8 ?_
        case o8 => decide
        refine lv_topl (fun x_3 ex_3 => ?_)
        refine lv_lcmp hx hb dX9_isBeyondDoubt_55 (fun x_4 => ?_)
        have jn_64 : ∀ (xj_5 : Int32) (ls : Array Slot), 0 ≤ xj_5.toInt → xj_5.toInt ≤ 1 → lv_has ls 7 [(6, .int iv8_6), (4, .long iv8_4), (2, .long iv8_2), (0, .int i1), (1, .int i2)] → W p l e ({ frames := 0, cells := 0, slots := 0, locals := 0 }) s m ([.int i1, .int i2] : List Value).toArray below meth c H locs 0 0 (MQ below (va_Qi (fun (r : Int32) (u : List Nat × hx_h) => (r.toInt = 0 ∨ r.toInt = 1) ∧ hx_T T_tb u.1 u.2 ∧ hx_S T_tb [] L h u.1 u.2) (hx_E T_tb (P_ty dA) (dC, dI) vwCl (hx_A L sz)) (hx_A L sz)) ([.int i1, .int i2] : List Value).toArray s 0 0 (hx_A L sz)) (F0 m 64 ls [.int xj_5]) := by
          intro xj_5 ls blxj_5 buxj_5 hl
          refine hx_retz hx hb hr (hx_nar01 ?o9) hlk hW ⟨?o10, hT, hM⟩ dX9_isBeyondDoubt_64
          case o9 => omega
          case o10 => omega
        refine hb_if_gt (zx := x_4.toInt) (tgt := 63) hx hb rfl dX9_isBeyondDoubt_56 ?o11 (fun c_6 => ?_) (fun c_6 => ?_)
        case o11 => decide
        · skip
          refine lv_iconst (v := 0) hx hb dX9_isBeyondDoubt_63 ?o12 ?_
          case o12 => decide
          refine jn_64 (0 : Int32) ls ?o13 ?o14 hl
          case o13 => decide
          case o14 => decide
        · skip
          refine lv_iconst (v := 1) hx hb dX9_isBeyondDoubt_59 ?o15 ?_
          case o15 => decide
          refine lv_goto (tgt := 64) hx hb dX9_isBeyondDoubt_60 ?o16 ?_
          case o16 => decide
          refine jn_64 (1 : Int32) ls ?o17 ?o18 hl
          case o17 => decide
          case o18 => decide
      · skip
        refine lv_iload hx hb dX9_isBeyondDoubt_14 (lv_at hl 0 rfl) ?_
        refine lv_iload_n hx hb dX9_isBeyondDoubt_16 rfl (lv_at hl 4 rfl) ?_
        refine hb_icmp_lt (zx := iv8_6.toInt) (zy := i2.toInt) (tgt := 25) hx hb rfl rfl dX9_isBeyondDoubt_17 ?o19 (fun c_7 => ?_) (fun c_7 => ?_)
        case o19 => decide
        · skip
          refine lv_lload hx hb dX9_isBeyondDoubt_25 (lv_at hl 1 rfl) ?_
          refine lv_iload_n hx hb dX9_isBeyondDoubt_27 rfl (lv_at hl 3 rfl) ?_
          refine lv_iload hx hb dX9_isBeyondDoubt_28 (lv_at hl 0 rfl) ?_
          refine lv_isub hx hb dX9_isBeyondDoubt_30 ?_
          have rg_8 := i32_r i1
          have rg_9 := i32_r iv8_6
          refine lv_topi (fun x_10 ex_10 => ?_)
          have zx_10 : x_10.toInt = i1.toInt - iv8_6.toInt := ?o20
          case o20 =>
            rw [ex_10]
            refine i32_sub rfl rfl ?o21 ?o22
            case o21 => omega
            case o22 => omega
          refine lv_i2l hx hb dX9_isBeyondDoubt_31 rfl ?_
          refine lv_topl (fun x_11 ex_11 => ?_)
          refine lv_lmul hx hb dX9_isBeyondDoubt_32 ?_
          refine lv_topl (fun x_12 ex_12 => ?_)
          refine lv_iload hx hb dX9_isBeyondDoubt_33 (lv_at hl 0 rfl) ?_
          refine lv_iconst (v := 1) hx hb dX9_isBeyondDoubt_35 ?o23 ?_
          case o23 => decide
          refine lv_iadd hx hb dX9_isBeyondDoubt_36 ?_
          refine lv_topi (fun x_13 ex_13 => ?_)
          have zx_13 : x_13.toInt = iv8_6.toInt + 1 := ?o24
          case o24 =>
            rw [ex_13]
            refine i32_add rfl ?o25 ?o26 ?o27
            case o25 => decide
            case o26 => omega
            case o27 => omega
          refine lv_i2l hx hb dX9_isBeyondDoubt_37 rfl ?_
          refine lv_topl (fun x_14 ex_14 => ?_)
          have nx_14 : ¬ x_14 = 0 := ?o28
          case o28 =>
            rw [ex_14]
            refine hx_l0 ?o29
            case o29 => omega
          refine lv_ldiv hx hb dX9_isBeyondDoubt_38 nx_14 ?_
          refine lv_topl (fun x_15 ex_15 => ?_)
          refine lv_lstore (lv' := [(4, .long x_15), (6, .int iv8_6), (2, .long iv8_2), (0, .int i1), (1, .int i2)]) hx hb dX9_isBeyondDoubt_39 hl ?o30 rfl (fun ls hl => ?_)
          case o30 => decide
          obtain ⟨x_16, ex_16⟩ : ∃ y : Int32, y = iv8_6 + Int32.ofInt 1 := ⟨_, rfl⟩
          have zx_16 : x_16.toInt = iv8_6.toInt + (1) := ?o31
          case o31 =>
            rw [ex_16]
            refine i32_add rfl ?o32 ?o33 ?o34
            case o32 => decide
            case o33 => omega
            case o34 => omega
          refine lv_iinc (v := x_16) (lv' := [(6, .int x_16), (4, .long x_15), (2, .long iv8_2), (0, .int i1), (1, .int i2)]) hx hb dX9_isBeyondDoubt_41 hl (k := 1) rfl ex_16.symm ?o35 rfl (fun ls hl => ?_)
          case o35 => decide
          refine lv_goto (tgt := 8) hx hb dX9_isBeyondDoubt_44 ?o36 ?_
          case o36 => decide
          refine ih8 x_16 x_15 iv8_2 _ _ hL1 hl1 ?o37 ?o38  ls ?o39 hW hT hM   (lv_sub hl [0, 1, 2, 3, 4] rfl)
          case o37 => omega
          case o38 => omega
          case o39 => omega
        · skip
          refine lv_lload_n hx hb dX9_isBeyondDoubt_20 rfl (lv_at hl 2 rfl) ?_
          refine lv_lload hx hb dX9_isBeyondDoubt_21 (lv_at hl 1 rfl) ?_
          refine lv_ladd hx hb dX9_isBeyondDoubt_23 ?_
          refine lv_topl (fun x_17 ex_17 => ?_)
          refine lv_lstore_n (lv' := [(2, .long x_17), (6, .int iv8_6), (4, .long iv8_4), (0, .int i1), (1, .int i2)]) hx hb dX9_isBeyondDoubt_24 rfl hl ?o40 rfl (fun ls hl => ?_)
          case o40 => decide
          refine lv_lload hx hb dX9_isBeyondDoubt_25 (lv_at hl 2 rfl) ?_
          refine lv_iload_n hx hb dX9_isBeyondDoubt_27 rfl (lv_at hl 3 rfl) ?_
          refine lv_iload hx hb dX9_isBeyondDoubt_28 (lv_at hl 1 rfl) ?_
          refine lv_isub hx hb dX9_isBeyondDoubt_30 ?_
          have rg_18 := i32_r i1
          have rg_19 := i32_r iv8_6
          refine lv_topi (fun x_20 ex_20 => ?_)
          have zx_20 : x_20.toInt = i1.toInt - iv8_6.toInt := ?o41
          case o41 =>
            rw [ex_20]
            refine i32_sub rfl rfl ?o42 ?o43
            case o42 => omega
            case o43 => omega
          refine lv_i2l hx hb dX9_isBeyondDoubt_31 rfl ?_
          refine lv_topl (fun x_21 ex_21 => ?_)
          refine lv_lmul hx hb dX9_isBeyondDoubt_32 ?_
          refine lv_topl (fun x_22 ex_22 => ?_)
          refine lv_iload hx hb dX9_isBeyondDoubt_33 (lv_at hl 1 rfl) ?_
          refine lv_iconst (v := 1) hx hb dX9_isBeyondDoubt_35 ?o44 ?_
          case o44 => decide
          refine lv_iadd hx hb dX9_isBeyondDoubt_36 ?_
          refine lv_topi (fun x_23 ex_23 => ?_)
          have zx_23 : x_23.toInt = iv8_6.toInt + 1 := ?o45
          case o45 =>
            rw [ex_23]
            refine i32_add rfl ?o46 ?o47 ?o48
            case o46 => decide
            case o47 => omega
            case o48 => omega
          refine lv_i2l hx hb dX9_isBeyondDoubt_37 rfl ?_
          refine lv_topl (fun x_24 ex_24 => ?_)
          have nx_24 : ¬ x_24 = 0 := ?o49
          case o49 =>
            rw [ex_24]
            refine hx_l0 ?o50
            case o50 => omega
          refine lv_ldiv hx hb dX9_isBeyondDoubt_38 nx_24 ?_
          refine lv_topl (fun x_25 ex_25 => ?_)
          refine lv_lstore (lv' := [(4, .long x_25), (2, .long x_17), (6, .int iv8_6), (0, .int i1), (1, .int i2)]) hx hb dX9_isBeyondDoubt_39 hl ?o51 rfl (fun ls hl => ?_)
          case o51 => decide
          obtain ⟨x_26, ex_26⟩ : ∃ y : Int32, y = iv8_6 + Int32.ofInt 1 := ⟨_, rfl⟩
          have zx_26 : x_26.toInt = iv8_6.toInt + (1) := ?o52
          case o52 =>
            rw [ex_26]
            refine i32_add rfl ?o53 ?o54 ?o55
            case o53 => decide
            case o54 => omega
            case o55 => omega
          refine lv_iinc (v := x_26) (lv' := [(6, .int x_26), (4, .long x_25), (2, .long x_17), (0, .int i1), (1, .int i2)]) hx hb dX9_isBeyondDoubt_41 hl (k := 2) rfl ex_26.symm ?o56 rfl (fun ls hl => ?_)
          case o56 => decide
          refine lv_goto (tgt := 8) hx hb dX9_isBeyondDoubt_44 ?o57 ?_
          case o57 => decide
          refine ih8 x_26 x_25 x_17 _ _ hL1 hl1 ?o58 ?o59  ls ?o60 hW hT hM   (lv_sub hl [0, 1, 2, 3, 4] rfl)
          case o58 => omega
          case o59 => omega
          case o60 => omega
  have zk_0 : (0 : Int32).toInt = 0 := ?o61
  case o61 => decide
  refine loop8 62 (0 : Int32) (1 : Int64) (0 : Int64) _ _ L h ?o62 ?o63  ls ?o64 hW hT hM   hl
  case o62 => decide
  case o63 => decide
  case o64 => omega

def wNX9_habit : Nat := 283680075158777479153717307559294185342906702651985785170364736774592529043278758226601368746818712194619094359818394686879034274981831163928853435481623983093658255766967746354573481225855797751927791734386181761224856698168863169175850289831146298002936000142862510983938795573808622999810578040858781924563426192238585843721123884828074356097750858209394790203912635596322299103339761227749172115159621747502095146
theorem wX9_habit_c : hz_cd cX9_habit wNX9_habit 173 := ⟨by decide +kernel, by decide +kernel⟩
theorem dX9_habit_0 : decode cX9_habit 0 = .ok (.aload_n 0, 1) := dw_42 wX9_habit_c rfl
theorem dX9_habit_1 : decode cX9_habit 1 = .ok (.iload_n 1, 1) := dw_27 wX9_habit_c rfl
theorem dX9_habit_2 : decode cX9_habit 2 = .ok (.invokevirtual 144, 3) := dw_182 wX9_habit_c 0 144 rfl rfl
theorem dX9_habit_5 : decode cX9_habit 5 = .ok (.astore_n 3, 1) := dw_78 wX9_habit_c rfl
theorem dX9_habit_6 : decode cX9_habit 6 = .ok (.aload_n 3, 1) := dw_45 wX9_habit_c rfl
theorem dX9_habit_7 : decode cX9_habit 7 = .ok (.ifnull 10, 3) := dw_198 wX9_habit_c 0 10 rfl rfl rfl
theorem dX9_habit_10 : decode cX9_habit 10 = .ok (.aload_n 3, 1) := dw_45 wX9_habit_c rfl
theorem dX9_habit_11 : decode cX9_habit 11 = .ok (.getfield 155, 3) := dw_180 wX9_habit_c 0 155 rfl rfl
theorem dX9_habit_14 : decode cX9_habit 14 = .ok (.ifCond .ne 5, 3) := dw_154 wX9_habit_c 0 5 rfl rfl rfl
theorem dX9_habit_17 : decode cX9_habit 17 = .ok (.iconst (-1), 1) := dw_2 wX9_habit_c rfl
theorem dX9_habit_18 : decode cX9_habit 18 = .ok (.ireturn, 1) := dw_172 wX9_habit_c rfl
theorem dX9_habit_19 : decode cX9_habit 19 = .ok (.iconst 0, 1) := dw_3 wX9_habit_c rfl
theorem dX9_habit_20 : decode cX9_habit 20 = .ok (.istore 4, 2) := dw_54 wX9_habit_c 4 rfl
theorem dX9_habit_22 : decode cX9_habit 22 = .ok (.iconst 0, 1) := dw_3 wX9_habit_c rfl
theorem dX9_habit_23 : decode cX9_habit 23 = .ok (.istore 5, 2) := dw_54 wX9_habit_c 5 rfl
theorem dX9_habit_25 : decode cX9_habit 25 = .ok (.aload_n 0, 1) := dw_42 wX9_habit_c rfl
theorem dX9_habit_26 : decode cX9_habit 26 = .ok (.getfield 216, 3) := dw_180 wX9_habit_c 0 216 rfl rfl
theorem dX9_habit_29 : decode cX9_habit 29 = .ok (.iconst 1, 1) := dw_4 wX9_habit_c rfl
theorem dX9_habit_30 : decode cX9_habit 30 = .ok (.isub, 1) := dw_100 wX9_habit_c rfl
theorem dX9_habit_31 : decode cX9_habit 31 = .ok (.istore 6, 2) := dw_54 wX9_habit_c 6 rfl
theorem dX9_habit_33 : decode cX9_habit 33 = .ok (.iload 6, 2) := dw_21 wX9_habit_c 6 rfl
theorem dX9_habit_35 : decode cX9_habit 35 = .ok (.ifCond .lt 71, 3) := dw_155 wX9_habit_c 0 71 rfl rfl rfl
theorem dX9_habit_38 : decode cX9_habit 38 = .ok (.iload 4, 2) := dw_21 wX9_habit_c 4 rfl
theorem dX9_habit_40 : decode cX9_habit 40 = .ok (.bipush 60, 2) := dw_16 wX9_habit_c 60 rfl rfl rfl
theorem dX9_habit_42 : decode cX9_habit 42 = .ok (.if_icmp .ge 64, 3) := dw_162 wX9_habit_c 0 64 rfl rfl rfl
theorem dX9_habit_45 : decode cX9_habit 45 = .ok (.aload_n 0, 1) := dw_42 wX9_habit_c rfl
theorem dX9_habit_46 : decode cX9_habit 46 = .ok (.getfield 52, 3) := dw_180 wX9_habit_c 0 52 rfl rfl
theorem dX9_habit_49 : decode cX9_habit 49 = .ok (.iload 6, 2) := dw_21 wX9_habit_c 6 rfl
theorem dX9_habit_51 : decode cX9_habit 51 = .ok (.aaload, 1) := dw_50 wX9_habit_c rfl
theorem dX9_habit_52 : decode cX9_habit 52 = .ok (.getfield 233, 3) := dw_180 wX9_habit_c 0 233 rfl rfl
theorem dX9_habit_55 : decode cX9_habit 55 = .ok (.iconst 4, 1) := dw_7 wX9_habit_c rfl
theorem dX9_habit_56 : decode cX9_habit 56 = .ok (.if_icmp .lt 44, 3) := dw_161 wX9_habit_c 0 44 rfl rfl rfl
theorem dX9_habit_59 : decode cX9_habit 59 = .ok (.aload_n 0, 1) := dw_42 wX9_habit_c rfl
theorem dX9_habit_60 : decode cX9_habit 60 = .ok (.getfield 52, 3) := dw_180 wX9_habit_c 0 52 rfl rfl
theorem dX9_habit_63 : decode cX9_habit 63 = .ok (.iload 6, 2) := dw_21 wX9_habit_c 6 rfl
theorem dX9_habit_65 : decode cX9_habit 65 = .ok (.aaload, 1) := dw_50 wX9_habit_c rfl
theorem dX9_habit_66 : decode cX9_habit 66 = .ok (.iload_n 1, 1) := dw_27 wX9_habit_c rfl
theorem dX9_habit_67 : decode cX9_habit 67 = .ok (.invokevirtual 397, 3) := dw_182 wX9_habit_c 1 141 rfl rfl
theorem dX9_habit_70 : decode cX9_habit 70 = .ok (.ifCond .eq 30, 3) := dw_153 wX9_habit_c 0 30 rfl rfl rfl
theorem dX9_habit_73 : decode cX9_habit 73 = .ok (.iinc 4 1, 3) := dw_132 wX9_habit_c 4 1 rfl rfl rfl
theorem dX9_habit_76 : decode cX9_habit 76 = .ok (.iload 5, 2) := dw_21 wX9_habit_c 5 rfl
theorem dX9_habit_78 : decode cX9_habit 78 = .ok (.aload_n 0, 1) := dw_42 wX9_habit_c rfl
theorem dX9_habit_79 : decode cX9_habit 79 = .ok (.getfield 52, 3) := dw_180 wX9_habit_c 0 52 rfl rfl
theorem dX9_habit_82 : decode cX9_habit 82 = .ok (.iload 6, 2) := dw_21 wX9_habit_c 6 rfl
theorem dX9_habit_84 : decode cX9_habit 84 = .ok (.aaload, 1) := dw_50 wX9_habit_c rfl
theorem dX9_habit_85 : decode cX9_habit 85 = .ok (.getfield 233, 3) := dw_180 wX9_habit_c 0 233 rfl rfl
theorem dX9_habit_88 : decode cX9_habit 88 = .ok (.iconst 5, 1) := dw_8 wX9_habit_c rfl
theorem dX9_habit_89 : decode cX9_habit 89 = .ok (.if_icmp .ne 7, 3) := dw_160 wX9_habit_c 0 7 rfl rfl rfl
theorem dX9_habit_92 : decode cX9_habit 92 = .ok (.iconst 1, 1) := dw_4 wX9_habit_c rfl
theorem dX9_habit_93 : decode cX9_habit 93 = .ok (.goto 4, 3) := dw_167 wX9_habit_c 0 4 rfl rfl rfl
theorem dX9_habit_96 : decode cX9_habit 96 = .ok (.iconst 0, 1) := dw_3 wX9_habit_c rfl
theorem dX9_habit_97 : decode cX9_habit 97 = .ok (.iadd, 1) := dw_96 wX9_habit_c rfl
theorem dX9_habit_98 : decode cX9_habit 98 = .ok (.istore 5, 2) := dw_54 wX9_habit_c 5 rfl
theorem dX9_habit_100 : decode cX9_habit 100 = .ok (.iinc 6 (-1), 3) := dn_132 wX9_habit_c 6 255 rfl (by decide)
theorem dX9_habit_103 : decode cX9_habit 103 = .ok (.goto (-70), 3) := dn_167 wX9_habit_c 255 186 rfl (by decide)
theorem dX9_habit_106 : decode cX9_habit 106 = .ok (.iload_n 2, 1) := dw_28 wX9_habit_c rfl
theorem dX9_habit_107 : decode cX9_habit 107 = .ok (.tableswitch 64 0 2 #[25, 28, 31], 25) := by decide +kernel
theorem dX9_habit_132 : decode cX9_habit 132 = .ok (.iload 4, 2) := dw_21 wX9_habit_c 4 rfl
theorem dX9_habit_134 : decode cX9_habit 134 = .ok (.ireturn, 1) := dw_172 wX9_habit_c rfl
theorem dX9_habit_135 : decode cX9_habit 135 = .ok (.iload 5, 2) := dw_21 wX9_habit_c 5 rfl
theorem dX9_habit_137 : decode cX9_habit 137 = .ok (.ireturn, 1) := dw_172 wX9_habit_c rfl
theorem dX9_habit_138 : decode cX9_habit 138 = .ok (.iload 4, 2) := dw_21 wX9_habit_c 4 rfl
theorem dX9_habit_140 : decode cX9_habit 140 = .ok (.iload 5, 2) := dw_21 wX9_habit_c 5 rfl
theorem dX9_habit_142 : decode cX9_habit 142 = .ok (.invokestatic 400, 3) := dw_184 wX9_habit_c 1 144 rfl rfl
theorem dX9_habit_145 : decode cX9_habit 145 = .ok (.ifCond .eq 7, 3) := dw_153 wX9_habit_c 0 7 rfl rfl rfl
theorem dX9_habit_148 : decode cX9_habit 148 = .ok (.iconst 1, 1) := dw_4 wX9_habit_c rfl
theorem dX9_habit_149 : decode cX9_habit 149 = .ok (.goto 21, 3) := dw_167 wX9_habit_c 0 21 rfl rfl rfl
theorem dX9_habit_152 : decode cX9_habit 152 = .ok (.iload 4, 2) := dw_21 wX9_habit_c 4 rfl
theorem dX9_habit_154 : decode cX9_habit 154 = .ok (.iload 4, 2) := dw_21 wX9_habit_c 4 rfl
theorem dX9_habit_156 : decode cX9_habit 156 = .ok (.iload 5, 2) := dw_21 wX9_habit_c 5 rfl
theorem dX9_habit_158 : decode cX9_habit 158 = .ok (.isub, 1) := dw_100 wX9_habit_c rfl
theorem dX9_habit_159 : decode cX9_habit 159 = .ok (.invokestatic 400, 3) := dw_184 wX9_habit_c 1 144 rfl rfl
theorem dX9_habit_162 : decode cX9_habit 162 = .ok (.ifCond .eq 7, 3) := dw_153 wX9_habit_c 0 7 rfl rfl rfl
theorem dX9_habit_165 : decode cX9_habit 165 = .ok (.iconst 2, 1) := dw_5 wX9_habit_c rfl
theorem dX9_habit_166 : decode cX9_habit 166 = .ok (.goto 4, 3) := dw_167 wX9_habit_c 0 4 rfl rfl rfl
theorem dX9_habit_169 : decode cX9_habit 169 = .ok (.iconst 0, 1) := dw_3 wX9_habit_c rfl
theorem dX9_habit_170 : decode cX9_habit 170 = .ok (.ireturn, 1) := dw_172 wX9_habit_c rfl
theorem dX9_habit_171 : decode cX9_habit 171 = .ok (.iconst (-1), 1) := dw_2 wX9_habit_c rfl
theorem dX9_habit_172 : decode cX9_habit 172 = .ok (.ireturn, 1) := dw_172 wX9_habit_c rfl
set_option maxHeartbeats 4000000 in
set_option maxRecDepth 100000 in
theorem t_X9_habit (l : Launch) (dC : Nat → ClassId) (dI : Nat → Nat → Nat) (dA : Nat → ClassId) (L : List Nat) (h : hx_h) (sz : Nat) (x : Nat) (i1 : Int32) (i2 : Int32) (hT : hx_T T_tb L h) (gx : hx_g L h x 9) (qp : Nat) (gqp : hx_g L h qp 44) (f_x_7 : h.2.2 x 7 = some qp) (qh : Nat) (gqh : hx_g L h qh 46) (f_x_12 : h.2.2 x 12 = some qh) (pf_x_8 : ∀ j : Nat, (j : Int) < (h.2.1 x 8).toInt → h.2.2 qp j ≠ none) (pf_x_13 : ∀ j : Nat, (j : Int) < (h.2.1 x 13).toInt → h.2.2 qh j ≠ none) : Met l yX9_habit (Cond.code yX9_habit cX9_habit 7 (some .int) :: hx_all) ({ frames := 1, cells := 0, slots := 0, locals := 26 }) (va_Pc [.ref x, .int i1, .int i2] (hx_B T_tb (P_ty dA) (dC, dI) vwCl L h sz)) (va_Qi (fun (r : Int32) (u : List Nat × hx_h) => (True) ∧ hx_T T_tb u.1 u.2 ∧ hx_S T_tb [] L h u.1 u.2) (hx_E T_tb (P_ty dA) (dC, dI) vwCl (hx_A L sz)) (hx_A L sz)) 0 0 (hx_A L sz) := by
  refine hx_met (lv := [(0, .ref x), (1, .int i1), (2, .int i2)]) (by decide +kernel) rfl (Nat.le_of_ble_eq_true rfl) rfl ?_
  intro p e s m below meth c hx hb hml hr hlk hts0 hown hin hsz hW ls hl
  have hts : ∀ w ∈ hx_all, w.before _ s = true := fun w hw => hts0 w (List.mem_cons_of_mem _ hw)
  have hown : s.vm.findClass "SmallCourt" = some m.cls := hown
  have hM : hx_S T_tb [] L h L h := hx_S.rf
  refine lv_aload_n hx hb dX9_habit_0 rfl (lv_at hl 0 rfl) ?_
  refine lv_iload_n hx hb dX9_habit_1 rfl (lv_at hl 1 rfl) ?_
  refine hx_goq (hx_runV (As := [.int i1]) (rest := []) ⟨hx, hb, hml, hown, hts⟩ hW (gx.S hM) tt_9 (T := TX9) (N := 20) rfl (t_X9_personAt l dC dI dA L h s.heap.size x i1 hT (gx.S hM) qp (gqp.S hM) ((hM.o gx trivial rfl).2.trans f_x_7) pf_x_8) (cwV 1 hts (hx_gV kw_659 kw_656 kw_658 kw_20 kw_94) rfl rfl rfl (by decide +kernel) ⟨Nat.le_of_ble_eq_true rfl, Nat.le_of_ble_eq_true rfl⟩) rfl hl.1 rfl (Nat.le_of_ble_eq_true rfl) dX9_habit_2 ⟨Nat.le_of_ble_eq_true rfl, Nat.le_of_ble_eq_true rfl⟩) hW (fun r_3 L_1 h_2 H locs p_4 hW => ?_)
  obtain ⟨hr_5, hT, hs⟩ := p_4
  replace hT : hx_T T_tb L_1 h_2 := hT
  replace hs : hx_S T_tb [] L h L_1 h_2 := hs
  replace pf_x_8 : ∀ j : Nat, (j : Int) < (h_2.2.1 x 8).toInt → h_2.2.2 qp j ≠ none := by
    intro j hj; rw [(hs.o (gx.S hM) trivial rfl).1] at hj; rw [(hs.a (gqp.S hM) rfl j).2]; exact pf_x_8 j hj
  replace pf_x_13 : ∀ j : Nat, (j : Int) < (h_2.2.1 x 13).toInt → h_2.2.2 qh j ≠ none := by
    intro j hj; rw [(hs.o (gx.S hM) trivial rfl).1] at hj; rw [(hs.a (gqh.S hM) rfl j).2]; exact pf_x_13 j hj
  replace hM := hM.tr (hs.mono ?o0)
  case o0 => decide
  have hr_5 : ∀ q, r_3 = some q → hx_g L_1 h_2 q 4 := hr_5
  rcases r_3 with _ | q_6
  · skip
    refine lv_astore_nN (lv' := [(3, .null), (0, .ref x), (1, .int i1), (2, .int i2)]) hx hb dX9_habit_5 rfl hl ?o1 rfl (fun ls hl => ?_)
    case o1 => decide
    refine lv_aload_nN hx hb dX9_habit_6 rfl (lv_at hl 0 rfl) ?_
    refine lv_ifnullN (tgt := 17) hx hb dX9_habit_7 ?o2 ?_
    case o2 => decide
    refine lv_iconst (v := -1) hx hb dX9_habit_17 ?o3 ?_
    case o3 => decide
    exact hx_reti hx hb hr hlk hW ⟨trivial, hT, hM⟩ dX9_habit_18
  · have gq_6 := hr_5 _ rfl
    refine lv_astore_n (lv' := [(3, .ref q_6), (0, .ref x), (1, .int i1), (2, .int i2)]) hx hb dX9_habit_5 rfl hl ?o4 rfl (fun ls hl => ?_)
    case o4 => decide
    refine lv_aload_n hx hb dX9_habit_6 rfl (lv_at hl 0 rfl) ?_
    refine lv_ifnull hx hb dX9_habit_7 ?_
    refine lv_aload_n hx hb dX9_habit_10 rfl (lv_at hl 0 rfl) ?_
    refine hx_geti hx hb hts hC_4 hown hW hT gq_6 tt_4 9 ?o5 rfl kw_626 ⟨rfl, rfl, rfl⟩ dX9_habit_11 (fun x_7 ex_7 lx_7 ux_7 => ?_)
    case o5 => decide
    have fx_7 := ex_7.symm
    refine hb_if_ne (zx := x_7.toInt) (tgt := 19) hx hb rfl dX9_habit_14 ?o6 (fun c_8 => ?_) (fun c_8 => ?_)
    case o6 => decide
    · skip
      refine lv_iconst (v := 0) hx hb dX9_habit_19 ?o7 ?_
      case o7 => decide
      refine lv_istore (lv' := [(4, .int (0 : Int32)), (3, .ref q_6), (0, .ref x), (1, .int i1), (2, .int i2)]) hx hb dX9_habit_20 hl ?o8 rfl (fun ls hl => ?_)
      case o8 => decide
      refine lv_iconst (v := 0) hx hb dX9_habit_22 ?o9 ?_
      case o9 => decide
      refine lv_istore (lv' := [(5, .int (0 : Int32)), (4, .int (0 : Int32)), (3, .ref q_6), (0, .ref x), (1, .int i1), (2, .int i2)]) hx hb dX9_habit_23 hl ?o10 rfl (fun ls hl => ?_)
      case o10 => decide
      refine lv_aload_n hx hb dX9_habit_25 rfl (lv_at hl 3 rfl) ?_
      refine hx_geti hx hb hts hC_9 hown hW hT (gx.S hM) tt_9 13 ?o11 rfl kw_377 ⟨rfl, rfl, rfl⟩ dX9_habit_26 (fun x_9 ex_9 lx_9 ux_9 => ?_)
      case o11 => decide
      have fx_9 := ex_9.symm
      refine lv_iconst (v := 1) hx hb dX9_habit_29 ?o12 ?_
      case o12 => decide
      refine lv_isub hx hb dX9_habit_30 ?_
      have rg_10 := i32_r x_9
      refine lv_topi (fun x_11 ex_11 => ?_)
      have zx_11 : x_11.toInt = x_9.toInt - 1 := ?o13
      case o13 =>
        rw [ex_11]
        refine i32_sub rfl ?o14 ?o15 ?o16
        case o14 => decide
        case o15 => omega
        case o16 => omega
      refine lv_istore (lv' := [(6, .int x_11), (5, .int (0 : Int32)), (4, .int (0 : Int32)), (3, .ref q_6), (0, .ref x), (1, .int i1), (2, .int i2)]) hx hb dX9_habit_31 hl ?o17 rfl (fun ls hl => ?_)
      case o17 => decide
      have loop33 : ∀ (n33 : Nat) (iv33_4 iv33_5 iv33_6 : Int32) (H : Heap) (locs : List Loc) (hL1 : List Nat) (hl1 : hx_h), 0 ≤ iv33_4.toInt → iv33_4.toInt ≤ 60 → 0 ≤ iv33_5.toInt → iv33_5.toInt ≤ 60 → -1 ≤ iv33_6.toInt → iv33_6.toInt ≤ 99 → (iv33_6.toInt < x_9.toInt) → (iv33_5.toInt <= iv33_4.toInt) → ∀ (ls : Array Slot), iv33_6.toInt + 1 < (n33 : Int) → hx_W T_tb (P_ty dA) (dC, dI) vwCl (hx_A L sz) s.heap hL1 hl1 s H locs → hx_T T_tb hL1 hl1 → hx_S T_tb [] L h hL1 hl1 → hl1.2.1 q_6 9 = x_7 → hl1.2.1 x 13 = x_9 → hx_g hL1 hl1 q_6 4 → (∀ j : Nat, (j : Int) < (hl1.2.1 x 8).toInt → hl1.2.2 qp j ≠ none) → (∀ j : Nat, (j : Int) < (hl1.2.1 x 13).toInt → hl1.2.2 qh j ≠ none) → lv_has ls 7 [(6, .int iv33_6), (5, .int iv33_5), (4, .int iv33_4), (3, .ref q_6), (0, .ref x), (1, .int i1), (2, .int i2)] → W p l e ({ frames := 1, cells := 0, slots := 0, locals := 26 }) s m ([.ref x, .int i1, .int i2] : List Value).toArray below meth c H locs 0 0 (MQ below (va_Qi (fun (r : Int32) (u : List Nat × hx_h) => (True) ∧ hx_T T_tb u.1 u.2 ∧ hx_S T_tb [] L h u.1 u.2) (hx_E T_tb (P_ty dA) (dC, dI) vwCl (hx_A L sz)) (hx_A L sz)) ([.ref x, .int i1, .int i2] : List Value).toArray s 0 0 (hx_A L sz)) (F0 m 33 ls []) := by
        intro n33
        induction n33 with
        | zero => intro iv33_4 iv33_5 iv33_6 H locs hL1 hl1 bliv33_4 buiv33_4 bliv33_5 buiv33_5 bliv33_6 buiv33_6 vi33_0 vi33_1 ls hn33; exfalso; omega
        | succ n33 ih33 =>
          intro iv33_4 iv33_5 iv33_6 H locs hL1 hl1 bliv33_4 buiv33_4 bliv33_5 buiv33_5 bliv33_6 buiv33_6 vi33_0 vi33_1 ls hn33 hW hT hM fx_7 fx_9 gq_6 pf_x_8 pf_x_13 hl
          refine lv_iload hx hb dX9_habit_33 (lv_at hl 0 rfl) ?_
          refine hb_if_lt (zx := iv33_6.toInt) (tgt := 106) hx hb rfl dX9_habit_35 ?o18 (fun c_12 => ?_) (fun c_12 => ?_)
          case o18 => decide
          · skip
            refine lv_iload_n hx hb dX9_habit_106 rfl (lv_at hl 6 rfl) ?_
            rcases (show (i2.toInt < 0 ∨ 2 < i2.toInt) ∨ i2.toInt = 0 ∨ i2.toInt = 1 ∨ i2.toInt = 2 from by omega) with c_13 | c_13 | c_13 | c_13
            · refine lv_tableOut (tgt := 171) hx hb dX9_habit_107 c_13 ?o19 ?_
              case o19 => decide
              refine lv_iconst (v := -1) hx hb dX9_habit_171 ?o20 ?_
              case o20 => decide
              exact hx_reti hx hb hr hlk hW ⟨trivial, hT, hM⟩ dX9_habit_172
            · refine lv_tableIn (off := 25) (tgt := 132) hx hb dX9_habit_107 ?o21 ?o22 (by rw [c_13]; rfl) ?o23 ?_
              case o21 => omega
              case o22 => omega
              case o23 => decide
              refine lv_iload hx hb dX9_habit_132 (lv_at hl 2 rfl) ?_
              exact hx_reti hx hb hr hlk hW ⟨trivial, hT, hM⟩ dX9_habit_134
            · refine lv_tableIn (off := 28) (tgt := 135) hx hb dX9_habit_107 ?o24 ?o25 (by rw [c_13]; rfl) ?o26 ?_
              case o24 => omega
              case o25 => omega
              case o26 => decide
              refine lv_iload hx hb dX9_habit_135 (lv_at hl 1 rfl) ?_
              exact hx_reti hx hb hr hlk hW ⟨trivial, hT, hM⟩ dX9_habit_137
            · refine lv_tableIn (off := 31) (tgt := 138) hx hb dX9_habit_107 ?o27 ?o28 (by rw [c_13]; rfl) ?o29 ?_
              case o27 => omega
              case o28 => omega
              case o29 => decide
              refine lv_iload hx hb dX9_habit_138 (lv_at hl 2 rfl) ?_
              refine lv_iload hx hb dX9_habit_140 (lv_at hl 1 rfl) ?_
              refine hx_goi (hx_runS (As := [.int iv33_4, .int iv33_5]) (rest := []) ⟨hx, hb, hml, hown, hts⟩ hW (t_X9_isBeyondDoubt l dC dI dA hL1 hl1 H.size iv33_4 iv33_5 hT ⟨?o30, ?o31⟩) (va_cwS 2 hts (hx_gS kw_1099 kw_1097 kw_1098 kw_94) rfl rfl rfl (by decide +kernel) ⟨Nat.le_of_ble_eq_true rfl, Nat.le_of_ble_eq_true rfl⟩) rfl hl.1 rfl (Nat.le_of_ble_eq_true rfl) dX9_habit_142 ⟨Nat.le_of_ble_eq_true rfl, Nat.le_of_ble_eq_true rfl⟩) hW (fun r_16 L_14 h_15 H locs p_17 hW => ?_)
              case o30 => omega
              case o31 => omega
              obtain ⟨hr_18, hT, hs⟩ := p_17
              replace hT : hx_T T_tb L_14 h_15 := hT
              replace hs : hx_S T_tb [] hL1 hl1 L_14 h_15 := hs
              replace fx_7 := (hs.o gq_6 trivial rfl).1.trans fx_7
              replace fx_9 := (hs.o (gx.S hM) trivial rfl).1.trans fx_9
              replace pf_x_8 : ∀ j : Nat, (j : Int) < (h_15.2.1 x 8).toInt → h_15.2.2 qp j ≠ none := by
                intro j hj; rw [(hs.o (gx.S hM) trivial rfl).1] at hj; rw [(hs.a (gqp.S hM) rfl j).2]; exact pf_x_8 j hj
              replace pf_x_13 : ∀ j : Nat, (j : Int) < (h_15.2.1 x 13).toInt → h_15.2.2 qh j ≠ none := by
                intro j hj; rw [(hs.o (gx.S hM) trivial rfl).1] at hj; rw [(hs.a (gqh.S hM) rfl j).2]; exact pf_x_13 j hj
              replace hM := hM.tr (hs.mono ?o32)
              case o32 => decide
              replace gq_6 := gq_6.S hs
              refine hb_if_eq (zx := r_16.toInt) (tgt := 152) hx hb rfl dX9_habit_145 ?o33 (fun c_19 => ?_) (fun c_19 => ?_)
              case o33 => decide
              · skip
                refine lv_iload hx hb dX9_habit_152 (lv_at hl 2 rfl) ?_
                refine lv_iload hx hb dX9_habit_154 (lv_at hl 2 rfl) ?_
                refine lv_iload hx hb dX9_habit_156 (lv_at hl 1 rfl) ?_
                refine lv_isub hx hb dX9_habit_158 ?_
                have rg_20 := i32_r iv33_4
                have rg_21 := i32_r iv33_5
                refine lv_topi (fun x_22 ex_22 => ?_)
                have zx_22 : x_22.toInt = iv33_4.toInt - iv33_5.toInt := ?o34
                case o34 =>
                  rw [ex_22]
                  refine i32_sub rfl rfl ?o35 ?o36
                  case o35 => omega
                  case o36 => omega
                refine hx_goi (hx_runS (As := [.int iv33_4, .int x_22]) (rest := []) ⟨hx, hb, hml, hown, hts⟩ hW (t_X9_isBeyondDoubt l dC dI dA L_14 h_15 H.size iv33_4 x_22 hT ⟨?o37, ?o38⟩) (va_cwS 2 hts (hx_gS kw_1099 kw_1097 kw_1098 kw_94) rfl rfl rfl (by decide +kernel) ⟨Nat.le_of_ble_eq_true rfl, Nat.le_of_ble_eq_true rfl⟩) rfl hl.1 rfl (Nat.le_of_ble_eq_true rfl) dX9_habit_159 ⟨Nat.le_of_ble_eq_true rfl, Nat.le_of_ble_eq_true rfl⟩) hW (fun r_25 L_23 h_24 H locs p_26 hW => ?_)
                case o37 => omega
                case o38 => omega
                obtain ⟨hr_27, hT, hs⟩ := p_26
                replace hT : hx_T T_tb L_23 h_24 := hT
                replace hs : hx_S T_tb [] L_14 h_15 L_23 h_24 := hs
                replace fx_7 := (hs.o gq_6 trivial rfl).1.trans fx_7
                replace fx_9 := (hs.o (gx.S hM) trivial rfl).1.trans fx_9
                replace pf_x_8 : ∀ j : Nat, (j : Int) < (h_24.2.1 x 8).toInt → h_24.2.2 qp j ≠ none := by
                  intro j hj; rw [(hs.o (gx.S hM) trivial rfl).1] at hj; rw [(hs.a (gqp.S hM) rfl j).2]; exact pf_x_8 j hj
                replace pf_x_13 : ∀ j : Nat, (j : Int) < (h_24.2.1 x 13).toInt → h_24.2.2 qh j ≠ none := by
                  intro j hj; rw [(hs.o (gx.S hM) trivial rfl).1] at hj; rw [(hs.a (gqh.S hM) rfl j).2]; exact pf_x_13 j hj
                replace hM := hM.tr (hs.mono ?o39)
                case o39 => decide
                replace gq_6 := gq_6.S hs
                have jn_170 : ∀ (xj_28 : Int32) (ls : Array Slot), 0 ≤ xj_28.toInt → xj_28.toInt ≤ 2 → lv_has ls 7 [(6, .int iv33_6), (5, .int iv33_5), (4, .int iv33_4), (3, .ref q_6), (0, .ref x), (1, .int i1), (2, .int i2)] → W p l e ({ frames := 1, cells := 0, slots := 0, locals := 26 }) s m ([.ref x, .int i1, .int i2] : List Value).toArray below meth c H locs 0 0 (MQ below (va_Qi (fun (r : Int32) (u : List Nat × hx_h) => (True) ∧ hx_T T_tb u.1 u.2 ∧ hx_S T_tb [] L h u.1 u.2) (hx_E T_tb (P_ty dA) (dC, dI) vwCl (hx_A L sz)) (hx_A L sz)) ([.ref x, .int i1, .int i2] : List Value).toArray s 0 0 (hx_A L sz)) (F0 m 170 ls [.int xj_28]) := by
                  intro xj_28 ls blxj_28 buxj_28 hl
                  exact hx_reti hx hb hr hlk hW ⟨trivial, hT, hM⟩ dX9_habit_170
                refine hb_if_eq (zx := r_25.toInt) (tgt := 169) hx hb rfl dX9_habit_162 ?o40 (fun c_29 => ?_) (fun c_29 => ?_)
                case o40 => decide
                · skip
                  refine lv_iconst (v := 0) hx hb dX9_habit_169 ?o41 ?_
                  case o41 => decide
                  refine jn_170 (0 : Int32) ls ?o42 ?o43 hl
                  case o42 => decide
                  case o43 => decide
                · skip
                  refine lv_iconst (v := 2) hx hb dX9_habit_165 ?o44 ?_
                  case o44 => decide
                  refine lv_goto (tgt := 170) hx hb dX9_habit_166 ?o45 ?_
                  case o45 => decide
                  refine jn_170 (2 : Int32) ls ?o46 ?o47 hl
                  case o46 => decide
                  case o47 => decide
              · skip
                refine lv_iconst (v := 1) hx hb dX9_habit_148 ?o48 ?_
                case o48 => decide
                refine lv_goto (tgt := 170) hx hb dX9_habit_149 ?o49 ?_
                case o49 => decide
                exact hx_reti hx hb hr hlk hW ⟨trivial, hT, hM⟩ dX9_habit_170
          · skip
            refine lv_iload hx hb dX9_habit_38 (lv_at hl 2 rfl) ?_
            refine lv_bipush (v := 60) hx hb dX9_habit_40 ?o50 ?_
            case o50 => decide
            refine hb_icmp_ge (zx := iv33_4.toInt) (zy := 60) (tgt := 106) hx hb rfl ?o51 dX9_habit_42 ?o52 (fun c_30 => ?_) (fun c_30 => ?_)
            case o51 => decide
            case o52 => decide
            · skip
              refine lv_iload_n hx hb dX9_habit_106 rfl (lv_at hl 6 rfl) ?_
              rcases (show (i2.toInt < 0 ∨ 2 < i2.toInt) ∨ i2.toInt = 0 ∨ i2.toInt = 1 ∨ i2.toInt = 2 from by omega) with c_31 | c_31 | c_31 | c_31
              · refine lv_tableOut (tgt := 171) hx hb dX9_habit_107 c_31 ?o53 ?_
                case o53 => decide
                refine lv_iconst (v := -1) hx hb dX9_habit_171 ?o54 ?_
                case o54 => decide
                exact hx_reti hx hb hr hlk hW ⟨trivial, hT, hM⟩ dX9_habit_172
              · refine lv_tableIn (off := 25) (tgt := 132) hx hb dX9_habit_107 ?o55 ?o56 (by rw [c_31]; rfl) ?o57 ?_
                case o55 => omega
                case o56 => omega
                case o57 => decide
                refine lv_iload hx hb dX9_habit_132 (lv_at hl 2 rfl) ?_
                exact hx_reti hx hb hr hlk hW ⟨trivial, hT, hM⟩ dX9_habit_134
              · refine lv_tableIn (off := 28) (tgt := 135) hx hb dX9_habit_107 ?o58 ?o59 (by rw [c_31]; rfl) ?o60 ?_
                case o58 => omega
                case o59 => omega
                case o60 => decide
                refine lv_iload hx hb dX9_habit_135 (lv_at hl 1 rfl) ?_
                exact hx_reti hx hb hr hlk hW ⟨trivial, hT, hM⟩ dX9_habit_137
              · refine lv_tableIn (off := 31) (tgt := 138) hx hb dX9_habit_107 ?o61 ?o62 (by rw [c_31]; rfl) ?o63 ?_
                case o61 => omega
                case o62 => omega
                case o63 => decide
                refine lv_iload hx hb dX9_habit_138 (lv_at hl 2 rfl) ?_
                refine lv_iload hx hb dX9_habit_140 (lv_at hl 1 rfl) ?_
                refine hx_goi (hx_runS (As := [.int iv33_4, .int iv33_5]) (rest := []) ⟨hx, hb, hml, hown, hts⟩ hW (t_X9_isBeyondDoubt l dC dI dA hL1 hl1 H.size iv33_4 iv33_5 hT ⟨?o64, ?o65⟩) (va_cwS 2 hts (hx_gS kw_1099 kw_1097 kw_1098 kw_94) rfl rfl rfl (by decide +kernel) ⟨Nat.le_of_ble_eq_true rfl, Nat.le_of_ble_eq_true rfl⟩) rfl hl.1 rfl (Nat.le_of_ble_eq_true rfl) dX9_habit_142 ⟨Nat.le_of_ble_eq_true rfl, Nat.le_of_ble_eq_true rfl⟩) hW (fun r_34 L_32 h_33 H locs p_35 hW => ?_)
                case o64 => omega
                case o65 => omega
                obtain ⟨hr_36, hT, hs⟩ := p_35
                replace hT : hx_T T_tb L_32 h_33 := hT
                replace hs : hx_S T_tb [] hL1 hl1 L_32 h_33 := hs
                replace fx_7 := (hs.o gq_6 trivial rfl).1.trans fx_7
                replace fx_9 := (hs.o (gx.S hM) trivial rfl).1.trans fx_9
                replace pf_x_8 : ∀ j : Nat, (j : Int) < (h_33.2.1 x 8).toInt → h_33.2.2 qp j ≠ none := by
                  intro j hj; rw [(hs.o (gx.S hM) trivial rfl).1] at hj; rw [(hs.a (gqp.S hM) rfl j).2]; exact pf_x_8 j hj
                replace pf_x_13 : ∀ j : Nat, (j : Int) < (h_33.2.1 x 13).toInt → h_33.2.2 qh j ≠ none := by
                  intro j hj; rw [(hs.o (gx.S hM) trivial rfl).1] at hj; rw [(hs.a (gqh.S hM) rfl j).2]; exact pf_x_13 j hj
                replace hM := hM.tr (hs.mono ?o66)
                case o66 => decide
                replace gq_6 := gq_6.S hs
                refine hb_if_eq (zx := r_34.toInt) (tgt := 152) hx hb rfl dX9_habit_145 ?o67 (fun c_37 => ?_) (fun c_37 => ?_)
                case o67 => decide
                · skip
                  refine lv_iload hx hb dX9_habit_152 (lv_at hl 2 rfl) ?_
                  refine lv_iload hx hb dX9_habit_154 (lv_at hl 2 rfl) ?_
                  refine lv_iload hx hb dX9_habit_156 (lv_at hl 1 rfl) ?_
                  refine lv_isub hx hb dX9_habit_158 ?_
                  have rg_38 := i32_r iv33_4
                  have rg_39 := i32_r iv33_5
                  refine lv_topi (fun x_40 ex_40 => ?_)
                  have zx_40 : x_40.toInt = iv33_4.toInt - iv33_5.toInt := ?o68
                  case o68 =>
                    rw [ex_40]
                    refine i32_sub rfl rfl ?o69 ?o70
                    case o69 => omega
                    case o70 => omega
                  refine hx_goi (hx_runS (As := [.int iv33_4, .int x_40]) (rest := []) ⟨hx, hb, hml, hown, hts⟩ hW (t_X9_isBeyondDoubt l dC dI dA L_32 h_33 H.size iv33_4 x_40 hT ⟨?o71, ?o72⟩) (va_cwS 2 hts (hx_gS kw_1099 kw_1097 kw_1098 kw_94) rfl rfl rfl (by decide +kernel) ⟨Nat.le_of_ble_eq_true rfl, Nat.le_of_ble_eq_true rfl⟩) rfl hl.1 rfl (Nat.le_of_ble_eq_true rfl) dX9_habit_159 ⟨Nat.le_of_ble_eq_true rfl, Nat.le_of_ble_eq_true rfl⟩) hW (fun r_43 L_41 h_42 H locs p_44 hW => ?_)
                  case o71 => omega
                  case o72 => omega
                  obtain ⟨hr_45, hT, hs⟩ := p_44
                  replace hT : hx_T T_tb L_41 h_42 := hT
                  replace hs : hx_S T_tb [] L_32 h_33 L_41 h_42 := hs
                  replace fx_7 := (hs.o gq_6 trivial rfl).1.trans fx_7
                  replace fx_9 := (hs.o (gx.S hM) trivial rfl).1.trans fx_9
                  replace pf_x_8 : ∀ j : Nat, (j : Int) < (h_42.2.1 x 8).toInt → h_42.2.2 qp j ≠ none := by
                    intro j hj; rw [(hs.o (gx.S hM) trivial rfl).1] at hj; rw [(hs.a (gqp.S hM) rfl j).2]; exact pf_x_8 j hj
                  replace pf_x_13 : ∀ j : Nat, (j : Int) < (h_42.2.1 x 13).toInt → h_42.2.2 qh j ≠ none := by
                    intro j hj; rw [(hs.o (gx.S hM) trivial rfl).1] at hj; rw [(hs.a (gqh.S hM) rfl j).2]; exact pf_x_13 j hj
                  replace hM := hM.tr (hs.mono ?o73)
                  case o73 => decide
                  replace gq_6 := gq_6.S hs
                  have jn_170 : ∀ (xj_46 : Int32) (ls : Array Slot), 0 ≤ xj_46.toInt → xj_46.toInt ≤ 2 → lv_has ls 7 [(6, .int iv33_6), (5, .int iv33_5), (4, .int iv33_4), (3, .ref q_6), (0, .ref x), (1, .int i1), (2, .int i2)] → W p l e ({ frames := 1, cells := 0, slots := 0, locals := 26 }) s m ([.ref x, .int i1, .int i2] : List Value).toArray below meth c H locs 0 0 (MQ below (va_Qi (fun (r : Int32) (u : List Nat × hx_h) => (True) ∧ hx_T T_tb u.1 u.2 ∧ hx_S T_tb [] L h u.1 u.2) (hx_E T_tb (P_ty dA) (dC, dI) vwCl (hx_A L sz)) (hx_A L sz)) ([.ref x, .int i1, .int i2] : List Value).toArray s 0 0 (hx_A L sz)) (F0 m 170 ls [.int xj_46]) := by
                    intro xj_46 ls blxj_46 buxj_46 hl
                    exact hx_reti hx hb hr hlk hW ⟨trivial, hT, hM⟩ dX9_habit_170
                  refine hb_if_eq (zx := r_43.toInt) (tgt := 169) hx hb rfl dX9_habit_162 ?o74 (fun c_47 => ?_) (fun c_47 => ?_)
                  case o74 => decide
                  · skip
                    refine lv_iconst (v := 0) hx hb dX9_habit_169 ?o75 ?_
                    case o75 => decide
                    refine jn_170 (0 : Int32) ls ?o76 ?o77 hl
                    case o76 => decide
                    case o77 => decide
                  · skip
                    refine lv_iconst (v := 2) hx hb dX9_habit_165 ?o78 ?_
                    case o78 => decide
                    refine lv_goto (tgt := 170) hx hb dX9_habit_166 ?o79 ?_
                    case o79 => decide
                    refine jn_170 (2 : Int32) ls ?o80 ?o81 hl
                    case o80 => decide
                    case o81 => decide
                · skip
                  refine lv_iconst (v := 1) hx hb dX9_habit_148 ?o82 ?_
                  case o82 => decide
                  refine lv_goto (tgt := 170) hx hb dX9_habit_149 ?o83 ?_
                  case o83 => decide
                  exact hx_reti hx hb hr hlk hW ⟨trivial, hT, hM⟩ dX9_habit_170
            · skip
              refine lv_aload_n hx hb dX9_habit_45 rfl (lv_at hl 4 rfl) ?_
              refine hk_getr hx hb hts hC_9 hown hW (gx.S hM) tt_9 12 ?o84 rfl kw_376 ⟨rfl, rfl, rfl⟩ ((hM.o gx trivial rfl).2.trans f_x_12) dX9_habit_46 ?_
              case o84 => decide
              refine lv_iload hx hb dX9_habit_49 (lv_at hl 0 rfl) ?_
              refine hx_aaldN hx hb hW hT (gqh.S hM) tt_46 (t1 := 2) rfl ⟨?o85, ?o86⟩ (pf_x_13 _ (by rw [fx_9]; exact hx_tnI (by omega) (by omega))) dX9_habit_51 (fun q_48 fq_48 gq_48 => ?_)
              case o85 => omega
              case o86 => omega
              refine hx_geti hx hb hts hC_2 hown hW hT gq_48 tt_2 12 ?o87 rfl kw_751 ⟨rfl, rfl, rfl⟩ dX9_habit_52 (fun x_49 ex_49 lx_49 ux_49 => ?_)
              case o87 => decide
              have fx_49 := ex_49.symm
              refine lv_iconst (v := 4) hx hb dX9_habit_55 ?o88 ?_
              case o88 => decide
              refine hb_icmp_lt (zx := x_49.toInt) (zy := 4) (tgt := 100) hx hb rfl ?o89 dX9_habit_56 ?o90 (fun c_50 => ?_) (fun c_50 => ?_)
              case o89 => decide
              case o90 => decide
              · skip
                obtain ⟨x_51, ex_51⟩ : ∃ y : Int32, y = iv33_6 + Int32.ofInt (-1) := ⟨_, rfl⟩
                have rg_52 := i32_r iv33_6
                have zx_51 : x_51.toInt = iv33_6.toInt + (-1) := ?o91
                case o91 =>
                  rw [ex_51]
                  refine i32_add rfl ?o92 ?o93 ?o94
                  case o92 => decide
                  case o93 => omega
                  case o94 => omega
                refine lv_iinc (v := x_51) (lv' := [(6, .int x_51), (5, .int iv33_5), (4, .int iv33_4), (3, .ref q_6), (0, .ref x), (1, .int i1), (2, .int i2)]) hx hb dX9_habit_100 hl (k := 0) rfl ex_51.symm ?o95 rfl (fun ls hl => ?_)
                case o95 => decide
                refine lv_goto (tgt := 33) hx hb dX9_habit_103 ?o96 ?_
                case o96 => decide
                refine ih33 iv33_4 iv33_5 x_51 _ _ hL1 hl1 ?o97 ?o98 ?o99 ?o100 ?o101 ?o102 ?o103 ?o104 ls ?o105 hW hT hM fx_7 fx_9 gq_6 pf_x_8 pf_x_13 (lv_sub hl [0, 1, 2, 3, 4, 5, 6] rfl)
                case o97 => omega
                case o98 => omega
                case o99 => omega
                case o100 => omega
                case o101 => omega
                case o102 => omega
                case o103 => omega
                case o104 => omega
                case o105 => omega
              · skip
                refine lv_aload_n hx hb dX9_habit_59 rfl (lv_at hl 4 rfl) ?_
                refine hk_getr hx hb hts hC_9 hown hW (gx.S hM) tt_9 12 ?o106 rfl kw_376 ⟨rfl, rfl, rfl⟩ ((hM.o gx trivial rfl).2.trans f_x_12) dX9_habit_60 ?_
                case o106 => decide
                refine lv_iload hx hb dX9_habit_63 (lv_at hl 0 rfl) ?_
                refine hx_aaldN hx hb hW hT (gqh.S hM) tt_46 (t1 := 2) rfl ⟨?o107, ?o108⟩ (pf_x_13 _ (by rw [fx_9]; exact hx_tnI (by omega) (by omega))) dX9_habit_65 (fun q_53 fq_53 gq_53 => ?_)
                case o107 => omega
                case o108 => omega
                refine lv_iload_n hx hb dX9_habit_66 rfl (lv_at hl 5 rfl) ?_
                refine hx_goi (hx_runV (As := [.int i1]) (rest := []) ⟨hx, hb, hml, hown, hts⟩ hW gq_53 tt_2 (T := TX2) (N := 19) rfl (t_X2_isOnBench l dC dI dA hL1 hl1 H.size q_53 i1 hT gq_53) (cwV 1 hts (hx_gV kw_1096 kw_1093 kw_1094 kw_1095 kw_110) rfl rfl rfl (by decide +kernel) ⟨Nat.le_of_ble_eq_true rfl, Nat.le_of_ble_eq_true rfl⟩) rfl hl.1 rfl (Nat.le_of_ble_eq_true rfl) dX9_habit_67 ⟨Nat.le_of_ble_eq_true rfl, Nat.le_of_ble_eq_true rfl⟩) hW (fun r_56 L_54 h_55 H locs p_57 hW => ?_)
                obtain ⟨hr_58, hT, hs⟩ := p_57
                replace hT : hx_T T_tb L_54 h_55 := hT
                replace hs : hx_S T_tb [] hL1 hl1 L_54 h_55 := hs
                replace fx_7 := (hs.o gq_6 trivial rfl).1.trans fx_7
                replace fx_9 := (hs.o (gx.S hM) trivial rfl).1.trans fx_9
                replace fx_49 := (hs.o gq_48 trivial rfl).1.trans fx_49
                replace pf_x_8 : ∀ j : Nat, (j : Int) < (h_55.2.1 x 8).toInt → h_55.2.2 qp j ≠ none := by
                  intro j hj; rw [(hs.o (gx.S hM) trivial rfl).1] at hj; rw [(hs.a (gqp.S hM) rfl j).2]; exact pf_x_8 j hj
                replace pf_x_13 : ∀ j : Nat, (j : Int) < (h_55.2.1 x 13).toInt → h_55.2.2 qh j ≠ none := by
                  intro j hj; rw [(hs.o (gx.S hM) trivial rfl).1] at hj; rw [(hs.a (gqh.S hM) rfl j).2]; exact pf_x_13 j hj
                replace hM := hM.tr (hs.mono ?o109)
                case o109 => decide
                replace gq_6 := gq_6.S hs
                replace gq_48 := gq_48.S hs
                replace gq_53 := gq_53.S hs
                refine hb_if_eq (zx := r_56.toInt) (tgt := 100) hx hb rfl dX9_habit_70 ?o110 (fun c_59 => ?_) (fun c_59 => ?_)
                case o110 => decide
                · skip
                  obtain ⟨x_60, ex_60⟩ : ∃ y : Int32, y = iv33_6 + Int32.ofInt (-1) := ⟨_, rfl⟩
                  have rg_61 := i32_r iv33_6
                  have zx_60 : x_60.toInt = iv33_6.toInt + (-1) := ?o111
                  case o111 =>
                    rw [ex_60]
                    refine i32_add rfl ?o112 ?o113 ?o114
                    case o112 => decide
                    case o113 => omega
                    case o114 => omega
                  refine lv_iinc (v := x_60) (lv' := [(6, .int x_60), (5, .int iv33_5), (4, .int iv33_4), (3, .ref q_6), (0, .ref x), (1, .int i1), (2, .int i2)]) hx hb dX9_habit_100 hl (k := 0) rfl ex_60.symm ?o115 rfl (fun ls hl => ?_)
                  case o115 => decide
                  refine lv_goto (tgt := 33) hx hb dX9_habit_103 ?o116 ?_
                  case o116 => decide
                  refine ih33 iv33_4 iv33_5 x_60 _ _ L_54 h_55 ?o117 ?o118 ?o119 ?o120 ?o121 ?o122 ?o123 ?o124 ls ?o125 hW hT hM fx_7 fx_9 gq_6 pf_x_8 pf_x_13 (lv_sub hl [0, 1, 2, 3, 4, 5, 6] rfl)
                  case o117 => omega
                  case o118 => omega
                  case o119 => omega
                  case o120 => omega
                  case o121 => omega
                  case o122 => omega
                  case o123 => omega
                  case o124 => omega
                  case o125 => omega
                · skip
                  obtain ⟨x_62, ex_62⟩ : ∃ y : Int32, y = iv33_4 + Int32.ofInt 1 := ⟨_, rfl⟩
                  have rg_63 := i32_r iv33_4
                  have zx_62 : x_62.toInt = iv33_4.toInt + (1) := ?o126
                  case o126 =>
                    rw [ex_62]
                    refine i32_add rfl ?o127 ?o128 ?o129
                    case o127 => decide
                    case o128 => omega
                    case o129 => omega
                  refine lv_iinc (v := x_62) (lv' := [(4, .int x_62), (6, .int iv33_6), (5, .int iv33_5), (3, .ref q_6), (0, .ref x), (1, .int i1), (2, .int i2)]) hx hb dX9_habit_73 hl (k := 2) rfl ex_62.symm ?o130 rfl (fun ls hl => ?_)
                  case o130 => decide
                  refine lv_iload hx hb dX9_habit_76 (lv_at hl 2 rfl) ?_
                  refine lv_aload_n hx hb dX9_habit_78 rfl (lv_at hl 4 rfl) ?_
                  refine hk_getr hx hb hts hC_9 hown hW (gx.S hM) tt_9 12 ?o131 rfl kw_376 ⟨rfl, rfl, rfl⟩ ((hM.o gx trivial rfl).2.trans f_x_12) dX9_habit_79 ?_
                  case o131 => decide
                  refine lv_iload hx hb dX9_habit_82 (lv_at hl 1 rfl) ?_
                  refine hx_aaldN hx hb hW hT (gqh.S hM) tt_46 (t1 := 2) rfl ⟨?o132, ?o133⟩ (pf_x_13 _ (by rw [fx_9]; exact hx_tnI (by omega) (by omega))) dX9_habit_84 (fun q_64 fq_64 gq_64 => ?_)
                  case o132 => omega
                  case o133 => omega
                  refine hx_geti hx hb hts hC_2 hown hW hT gq_64 tt_2 12 ?o134 rfl kw_751 ⟨rfl, rfl, rfl⟩ dX9_habit_85 (fun x_65 ex_65 lx_65 ux_65 => ?_)
                  case o134 => decide
                  have fx_65 := ex_65.symm
                  refine lv_iconst (v := 5) hx hb dX9_habit_88 ?o135 ?_
                  case o135 => decide
                  have jn_97 : ∀ (xj_66 : Int32) (ls : Array Slot), 0 ≤ xj_66.toInt → xj_66.toInt ≤ 1 → lv_has ls 7 [(4, .int x_62), (6, .int iv33_6), (5, .int iv33_5), (3, .ref q_6), (0, .ref x), (1, .int i1), (2, .int i2)] → W p l e ({ frames := 1, cells := 0, slots := 0, locals := 26 }) s m ([.ref x, .int i1, .int i2] : List Value).toArray below meth c H locs 0 0 (MQ below (va_Qi (fun (r : Int32) (u : List Nat × hx_h) => (True) ∧ hx_T T_tb u.1 u.2 ∧ hx_S T_tb [] L h u.1 u.2) (hx_E T_tb (P_ty dA) (dC, dI) vwCl (hx_A L sz)) (hx_A L sz)) ([.ref x, .int i1, .int i2] : List Value).toArray s 0 0 (hx_A L sz)) (F0 m 97 ls [.int xj_66, .int iv33_5]) := by
                    intro xj_66 ls blxj_66 buxj_66 hl
                    refine lv_iadd hx hb dX9_habit_97 ?_
                    have rg_67 := i32_r iv33_5
                    have rg_68 := i32_r xj_66
                    refine lv_topi (fun x_69 ex_69 => ?_)
                    have zx_69 : x_69.toInt = iv33_5.toInt + xj_66.toInt := ?o136
                    case o136 =>
                      rw [ex_69]
                      refine i32_add rfl rfl ?o137 ?o138
                      case o137 => omega
                      case o138 => omega
                    refine lv_istore (lv' := [(5, .int x_69), (4, .int x_62), (6, .int iv33_6), (3, .ref q_6), (0, .ref x), (1, .int i1), (2, .int i2)]) hx hb dX9_habit_98 hl ?o139 rfl (fun ls hl => ?_)
                    case o139 => decide
                    obtain ⟨x_70, ex_70⟩ : ∃ y : Int32, y = iv33_6 + Int32.ofInt (-1) := ⟨_, rfl⟩
                    have rg_71 := i32_r iv33_6
                    have zx_70 : x_70.toInt = iv33_6.toInt + (-1) := ?o140
                    case o140 =>
                      rw [ex_70]
                      refine i32_add rfl ?o141 ?o142 ?o143
                      case o141 => decide
                      case o142 => omega
                      case o143 => omega
                    refine lv_iinc (v := x_70) (lv' := [(6, .int x_70), (5, .int x_69), (4, .int x_62), (3, .ref q_6), (0, .ref x), (1, .int i1), (2, .int i2)]) hx hb dX9_habit_100 hl (k := 2) rfl ex_70.symm ?o144 rfl (fun ls hl => ?_)
                    case o144 => decide
                    refine lv_goto (tgt := 33) hx hb dX9_habit_103 ?o145 ?_
                    case o145 => decide
                    refine ih33 x_62 x_69 x_70 _ _ L_54 h_55 ?o146 ?o147 ?o148 ?o149 ?o150 ?o151 ?o152 ?o153 ls ?o154 hW hT hM fx_7 fx_9 gq_6 pf_x_8 pf_x_13 (lv_sub hl [0, 1, 2, 3, 4, 5, 6] rfl)
                    case o146 => omega
                    case o147 => omega
                    case o148 => omega
                    case o149 => omega
                    case o150 => omega
                    case o151 => omega
                    case o152 => omega
                    case o153 => omega
                    case o154 => omega
                  refine hb_icmp_ne (zx := x_65.toInt) (zy := 5) (tgt := 96) hx hb rfl ?o155 dX9_habit_89 ?o156 (fun c_72 => ?_) (fun c_72 => ?_)
                  case o155 => decide
                  case o156 => decide
                  · skip
                    refine lv_iconst (v := 0) hx hb dX9_habit_96 ?o157 ?_
                    case o157 => decide
                    refine jn_97 (0 : Int32) ls ?o158 ?o159 hl
                    case o158 => decide
                    case o159 => decide
                  · skip
                    refine lv_iconst (v := 1) hx hb dX9_habit_92 ?o160 ?_
                    case o160 => decide
                    refine lv_goto (tgt := 97) hx hb dX9_habit_93 ?o161 ?_
                    case o161 => decide
                    refine jn_97 (1 : Int32) ls ?o162 ?o163 hl
                    case o162 => decide
                    case o163 => decide
      have zk_0 : (0 : Int32).toInt = 0 := ?o164
      case o164 => decide
      have zk_0 : (0 : Int32).toInt = 0 := ?o165
      case o165 => decide
      refine loop33 101 (0 : Int32) (0 : Int32) x_11 _ _ L_1 h_2 ?o166 ?o167 ?o168 ?o169 ?o170 ?o171 ?o172 ?o173 ls ?o174 hW hT hM fx_7 fx_9 gq_6 pf_x_8 pf_x_13 hl
      case o166 => decide
      case o167 => decide
      case o168 => decide
      case o169 => decide
      case o170 => omega
      case o171 => omega
      case o172 => omega
      case o173 => omega
      case o174 => omega
    · skip
      refine lv_iconst (v := -1) hx hb dX9_habit_17 ?o175 ?_
      case o175 => decide
      exact hx_reti hx hb hr hlk hW ⟨trivial, hT, hM⟩ dX9_habit_18

def wNX9_other : Nat := 37383840969892337906776122894082990277901214579484183362801402958779329178646284519024198643593115784353747969904396604542482276869206373310437320338428213809451106257019233935829674954345322865290021178870891556720182708958741160605371124632089283423333006902055920389497244518966818127679839841307584071543135292687696181411400712731
theorem wX9_other_c : hz_cd cX9_other wNX9_other 139 := ⟨by decide +kernel, by decide +kernel⟩
theorem dX9_other_0 : decode cX9_other 0 = .ok (.iload_n 1, 1) := dw_27 wX9_other_c rfl
theorem dX9_other_1 : decode cX9_other 1 = .ok (.iconst (-1), 1) := dw_2 wX9_other_c rfl
theorem dX9_other_2 : decode cX9_other 2 = .ok (.if_icmp .lt 22, 3) := dw_161 wX9_other_c 0 22 rfl rfl rfl
theorem dX9_other_5 : decode cX9_other 5 = .ok (.iload_n 1, 1) := dw_27 wX9_other_c rfl
theorem dX9_other_6 : decode cX9_other 6 = .ok (.aload_n 0, 1) := dw_42 wX9_other_c rfl
theorem dX9_other_7 : decode cX9_other 7 = .ok (.getfield 105, 3) := dw_180 wX9_other_c 0 105 rfl rfl
theorem dX9_other_10 : decode cX9_other 10 = .ok (.if_icmp .ge 14, 3) := dw_162 wX9_other_c 0 14 rfl rfl rfl
theorem dX9_other_13 : decode cX9_other 13 = .ok (.iload_n 2, 1) := dw_28 wX9_other_c rfl
theorem dX9_other_14 : decode cX9_other 14 = .ok (.iconst 1, 1) := dw_4 wX9_other_c rfl
theorem dX9_other_15 : decode cX9_other 15 = .ok (.if_icmp .lt 9, 3) := dw_161 wX9_other_c 0 9 rfl rfl rfl
theorem dX9_other_18 : decode cX9_other 18 = .ok (.iload_n 2, 1) := dw_28 wX9_other_c rfl
theorem dX9_other_19 : decode cX9_other 19 = .ok (.bipush 6, 2) := dw_16 wX9_other_c 6 rfl rfl rfl
theorem dX9_other_21 : decode cX9_other 21 = .ok (.if_icmp .le 5, 3) := dw_164 wX9_other_c 0 5 rfl rfl rfl
theorem dX9_other_24 : decode cX9_other 24 = .ok (.iconst (-1), 1) := dw_2 wX9_other_c rfl
theorem dX9_other_25 : decode cX9_other 25 = .ok (.ireturn, 1) := dw_172 wX9_other_c rfl
theorem dX9_other_26 : decode cX9_other 26 = .ok (.iload_n 1, 1) := dw_27 wX9_other_c rfl
theorem dX9_other_27 : decode cX9_other 27 = .ok (.iconst (-1), 1) := dw_2 wX9_other_c rfl
theorem dX9_other_28 : decode cX9_other 28 = .ok (.if_icmp .ne 10, 3) := dw_160 wX9_other_c 0 10 rfl rfl rfl
theorem dX9_other_31 : decode cX9_other 31 = .ok (.aload_n 0, 1) := dw_42 wX9_other_c rfl
theorem dX9_other_32 : decode cX9_other 32 = .ok (.getfield 25, 3) := dw_180 wX9_other_c 0 25 rfl rfl
theorem dX9_other_35 : decode cX9_other 35 = .ok (.goto 9, 3) := dw_167 wX9_other_c 0 9 rfl rfl rfl
theorem dX9_other_38 : decode cX9_other 38 = .ok (.aload_n 0, 1) := dw_42 wX9_other_c rfl
theorem dX9_other_39 : decode cX9_other 39 = .ok (.getfield 29, 3) := dw_180 wX9_other_c 0 29 rfl rfl
theorem dX9_other_42 : decode cX9_other 42 = .ok (.iload_n 1, 1) := dw_27 wX9_other_c rfl
theorem dX9_other_43 : decode cX9_other 43 = .ok (.aaload, 1) := dw_50 wX9_other_c rfl
theorem dX9_other_44 : decode cX9_other 44 = .ok (.astore_n 3, 1) := dw_78 wX9_other_c rfl
theorem dX9_other_45 : decode cX9_other 45 = .ok (.iconst 0, 1) := dw_3 wX9_other_c rfl
theorem dX9_other_46 : decode cX9_other 46 = .ok (.istore 4, 2) := dw_54 wX9_other_c 4 rfl
theorem dX9_other_48 : decode cX9_other 48 = .ok (.iconst 0, 1) := dw_3 wX9_other_c rfl
theorem dX9_other_49 : decode cX9_other 49 = .ok (.istore 5, 2) := dw_54 wX9_other_c 5 rfl
theorem dX9_other_51 : decode cX9_other 51 = .ok (.iconst 0, 1) := dw_3 wX9_other_c rfl
theorem dX9_other_52 : decode cX9_other 52 = .ok (.istore 6, 2) := dw_54 wX9_other_c 6 rfl
theorem dX9_other_54 : decode cX9_other 54 = .ok (.iload 6, 2) := dw_21 wX9_other_c 6 rfl
theorem dX9_other_56 : decode cX9_other 56 = .ok (.aload_n 0, 1) := dw_42 wX9_other_c rfl
theorem dX9_other_57 : decode cX9_other 57 = .ok (.getfield 216, 3) := dw_180 wX9_other_c 0 216 rfl rfl
theorem dX9_other_60 : decode cX9_other 60 = .ok (.if_icmp .ge 66, 3) := dw_162 wX9_other_c 0 66 rfl rfl rfl
theorem dX9_other_63 : decode cX9_other 63 = .ok (.aload_n 0, 1) := dw_42 wX9_other_c rfl
theorem dX9_other_64 : decode cX9_other 64 = .ok (.aload_n 0, 1) := dw_42 wX9_other_c rfl
theorem dX9_other_65 : decode cX9_other 65 = .ok (.getfield 52, 3) := dw_180 wX9_other_c 0 52 rfl rfl
theorem dX9_other_68 : decode cX9_other 68 = .ok (.iload 6, 2) := dw_21 wX9_other_c 6 rfl
theorem dX9_other_70 : decode cX9_other 70 = .ok (.aaload, 1) := dw_50 wX9_other_c rfl
theorem dX9_other_71 : decode cX9_other 71 = .ok (.aload_n 3, 1) := dw_45 wX9_other_c rfl
theorem dX9_other_72 : decode cX9_other 72 = .ok (.invokevirtual 229, 3) := dw_182 wX9_other_c 0 229 rfl rfl
theorem dX9_other_75 : decode cX9_other 75 = .ok (.istore 7, 2) := dw_54 wX9_other_c 7 rfl
theorem dX9_other_77 : decode cX9_other 77 = .ok (.iload 4, 2) := dw_21 wX9_other_c 4 rfl
theorem dX9_other_79 : decode cX9_other 79 = .ok (.iload 7, 2) := dw_21 wX9_other_c 7 rfl
theorem dX9_other_81 : decode cX9_other 81 = .ok (.iload_n 2, 1) := dw_28 wX9_other_c rfl
theorem dX9_other_82 : decode cX9_other 82 = .ok (.if_icmp .ne 7, 3) := dw_160 wX9_other_c 0 7 rfl rfl rfl
theorem dX9_other_85 : decode cX9_other 85 = .ok (.iconst 1, 1) := dw_4 wX9_other_c rfl
theorem dX9_other_86 : decode cX9_other 86 = .ok (.goto 4, 3) := dw_167 wX9_other_c 0 4 rfl rfl rfl
theorem dX9_other_89 : decode cX9_other 89 = .ok (.iconst 0, 1) := dw_3 wX9_other_c rfl
theorem dX9_other_90 : decode cX9_other 90 = .ok (.iadd, 1) := dw_96 wX9_other_c rfl
theorem dX9_other_91 : decode cX9_other 91 = .ok (.istore 4, 2) := dw_54 wX9_other_c 4 rfl
theorem dX9_other_93 : decode cX9_other 93 = .ok (.iload 5, 2) := dw_21 wX9_other_c 5 rfl
theorem dX9_other_95 : decode cX9_other 95 = .ok (.aload_n 0, 1) := dw_42 wX9_other_c rfl
theorem dX9_other_96 : decode cX9_other 96 = .ok (.getfield 52, 3) := dw_180 wX9_other_c 0 52 rfl rfl
theorem dX9_other_99 : decode cX9_other 99 = .ok (.iload 6, 2) := dw_21 wX9_other_c 6 rfl
theorem dX9_other_101 : decode cX9_other 101 = .ok (.aaload, 1) := dw_50 wX9_other_c rfl
theorem dX9_other_102 : decode cX9_other 102 = .ok (.aload_n 3, 1) := dw_45 wX9_other_c rfl
theorem dX9_other_103 : decode cX9_other 103 = .ok (.iload 7, 2) := dw_21 wX9_other_c 7 rfl
theorem dX9_other_105 : decode cX9_other 105 = .ok (.iconst 5, 1) := dw_8 wX9_other_c rfl
theorem dX9_other_106 : decode cX9_other 106 = .ok (.if_icmp .ne 7, 3) := dw_160 wX9_other_c 0 7 rfl rfl rfl
theorem dX9_other_109 : decode cX9_other 109 = .ok (.iconst 1, 1) := dw_4 wX9_other_c rfl
theorem dX9_other_110 : decode cX9_other 110 = .ok (.goto 4, 3) := dw_167 wX9_other_c 0 4 rfl rfl rfl
theorem dX9_other_113 : decode cX9_other 113 = .ok (.iconst 0, 1) := dw_3 wX9_other_c rfl
theorem dX9_other_114 : decode cX9_other 114 = .ok (.invokevirtual 256, 3) := dw_182 wX9_other_c 1 0 rfl rfl
theorem dX9_other_117 : decode cX9_other 117 = .ok (.iadd, 1) := dw_96 wX9_other_c rfl
theorem dX9_other_118 : decode cX9_other 118 = .ok (.istore 5, 2) := dw_54 wX9_other_c 5 rfl
theorem dX9_other_120 : decode cX9_other 120 = .ok (.iinc 6 1, 3) := dw_132 wX9_other_c 6 1 rfl rfl rfl
theorem dX9_other_123 : decode cX9_other 123 = .ok (.goto (-69), 3) := dn_167 wX9_other_c 255 187 rfl (by decide)
theorem dX9_other_126 : decode cX9_other 126 = .ok (.iload_n 2, 1) := dw_28 wX9_other_c rfl
theorem dX9_other_127 : decode cX9_other 127 = .ok (.iconst 5, 1) := dw_8 wX9_other_c rfl
theorem dX9_other_128 : decode cX9_other 128 = .ok (.if_icmp .le 8, 3) := dw_164 wX9_other_c 0 8 rfl rfl rfl
theorem dX9_other_131 : decode cX9_other 131 = .ok (.iload 5, 2) := dw_21 wX9_other_c 5 rfl
theorem dX9_other_133 : decode cX9_other 133 = .ok (.goto 5, 3) := dw_167 wX9_other_c 0 5 rfl rfl rfl
theorem dX9_other_136 : decode cX9_other 136 = .ok (.iload 4, 2) := dw_21 wX9_other_c 4 rfl
theorem dX9_other_138 : decode cX9_other 138 = .ok (.ireturn, 1) := dw_172 wX9_other_c rfl
def wNX9_person : Nat := 1150623265193507310456693334782343354360843648474106012785409912690088907068082904414211678208869270546921374303407497732116320123848335014123490894775103157229845593380590389802492163071008645213435324354835859828109727593437058921604329813034
theorem wX9_person_c : hz_cd cX9_person wNX9_person 101 := ⟨by decide +kernel, by decide +kernel⟩
theorem dX9_person_0 : decode cX9_person 0 = .ok (.aload_n 0, 1) := dw_42 wX9_person_c rfl
theorem dX9_person_1 : decode cX9_person 1 = .ok (.getfield 125, 3) := dw_180 wX9_person_c 0 125 rfl rfl
theorem dX9_person_4 : decode cX9_person 4 = .ok (.bipush 40, 2) := dw_16 wX9_person_c 40 rfl rfl rfl
theorem dX9_person_6 : decode cX9_person 6 = .ok (.if_icmp .ge 39, 3) := dw_162 wX9_person_c 0 39 rfl rfl rfl
theorem dX9_person_9 : decode cX9_person 9 = .ok (.iload_n 1, 1) := dw_27 wX9_person_c rfl
theorem dX9_person_10 : decode cX9_person 10 = .ok (.sipush (-30000), 3) := dn_17 wX9_person_c 138 208 rfl (by decide)
theorem dX9_person_13 : decode cX9_person 13 = .ok (.sipush 7999, 3) := dw_17 wX9_person_c 31 63 rfl rfl rfl
theorem dX9_person_16 : decode cX9_person 16 = .ok (.invokestatic 128, 3) := dw_184 wX9_person_c 0 128 rfl rfl
theorem dX9_person_19 : decode cX9_person 19 = .ok (.ifCond .eq 26, 3) := dw_153 wX9_person_c 0 26 rfl rfl rfl
theorem dX9_person_22 : decode cX9_person 22 = .ok (.iload_n 2, 1) := dw_28 wX9_person_c rfl
theorem dX9_person_23 : decode cX9_person 23 = .ok (.iload_n 3, 1) := dw_29 wX9_person_c rfl
theorem dX9_person_24 : decode cX9_person 24 = .ok (.iload 4, 2) := dw_21 wX9_person_c 4 rfl
theorem dX9_person_26 : decode cX9_person 26 = .ok (.iload 5, 2) := dw_21 wX9_person_c 5 rfl
theorem dX9_person_28 : decode cX9_person 28 = .ok (.invokestatic 132, 3) := dw_184 wX9_person_c 0 132 rfl rfl
theorem dX9_person_31 : decode cX9_person 31 = .ok (.ifCond .eq 14, 3) := dw_153 wX9_person_c 0 14 rfl rfl rfl
theorem dX9_person_34 : decode cX9_person 34 = .ok (.iload 6, 2) := dw_21 wX9_person_c 6 rfl
theorem dX9_person_36 : decode cX9_person 36 = .ok (.iconst (-1), 1) := dw_2 wX9_person_c rfl
theorem dX9_person_37 : decode cX9_person 37 = .ok (.bipush 19, 2) := dw_16 wX9_person_c 19 rfl rfl rfl
theorem dX9_person_39 : decode cX9_person 39 = .ok (.invokestatic 128, 3) := dw_184 wX9_person_c 0 128 rfl rfl
theorem dX9_person_42 : decode cX9_person 42 = .ok (.ifCond .ne 5, 3) := dw_154 wX9_person_c 0 5 rfl rfl rfl
theorem dX9_person_45 : decode cX9_person 45 = .ok (.iconst (-1), 1) := dw_2 wX9_person_c rfl
theorem dX9_person_46 : decode cX9_person 46 = .ok (.ireturn, 1) := dw_172 wX9_person_c rfl
theorem dX9_person_47 : decode cX9_person 47 = .ok (.new 33, 3) := dw_187 wX9_person_c 0 33 rfl rfl
theorem dX9_person_50 : decode cX9_person 50 = .ok (.dup, 1) := dw_89 wX9_person_c rfl
theorem dX9_person_51 : decode cX9_person 51 = .ok (.aload_n 0, 1) := dw_42 wX9_person_c rfl
theorem dX9_person_52 : decode cX9_person 52 = .ok (.getfield 125, 3) := dw_180 wX9_person_c 0 125 rfl rfl
theorem dX9_person_55 : decode cX9_person 55 = .ok (.iload_n 1, 1) := dw_27 wX9_person_c rfl
theorem dX9_person_56 : decode cX9_person 56 = .ok (.iload 6, 2) := dw_21 wX9_person_c 6 rfl
theorem dX9_person_58 : decode cX9_person 58 = .ok (.invokespecial 136, 3) := dw_183 wX9_person_c 0 136 rfl rfl
theorem dX9_person_61 : decode cX9_person 61 = .ok (.astore 7, 2) := dw_58 wX9_person_c 7 rfl
theorem dX9_person_63 : decode cX9_person 63 = .ok (.aload 7, 2) := dw_25 wX9_person_c 7 rfl
theorem dX9_person_65 : decode cX9_person 65 = .ok (.iload_n 2, 1) := dw_28 wX9_person_c rfl
theorem dX9_person_66 : decode cX9_person 66 = .ok (.iload_n 3, 1) := dw_29 wX9_person_c rfl
theorem dX9_person_67 : decode cX9_person 67 = .ok (.iload 4, 2) := dw_21 wX9_person_c 4 rfl
theorem dX9_person_69 : decode cX9_person 69 = .ok (.iload 5, 2) := dw_21 wX9_person_c 5 rfl
theorem dX9_person_71 : decode cX9_person 71 = .ok (.invokevirtual 139, 3) := dw_182 wX9_person_c 0 139 rfl rfl
theorem dX9_person_74 : decode cX9_person 74 = .ok (.aload_n 0, 1) := dw_42 wX9_person_c rfl
theorem dX9_person_75 : decode cX9_person 75 = .ok (.getfield 35, 3) := dw_180 wX9_person_c 0 35 rfl rfl
theorem dX9_person_78 : decode cX9_person 78 = .ok (.aload_n 0, 1) := dw_42 wX9_person_c rfl
theorem dX9_person_79 : decode cX9_person 79 = .ok (.getfield 125, 3) := dw_180 wX9_person_c 0 125 rfl rfl
theorem dX9_person_82 : decode cX9_person 82 = .ok (.aload 7, 2) := dw_25 wX9_person_c 7 rfl
theorem dX9_person_84 : decode cX9_person 84 = .ok (.aastore, 1) := dw_83 wX9_person_c rfl
theorem dX9_person_85 : decode cX9_person 85 = .ok (.aload_n 0, 1) := dw_42 wX9_person_c rfl
theorem dX9_person_86 : decode cX9_person 86 = .ok (.dup, 1) := dw_89 wX9_person_c rfl
theorem dX9_person_87 : decode cX9_person 87 = .ok (.getfield 125, 3) := dw_180 wX9_person_c 0 125 rfl rfl
theorem dX9_person_90 : decode cX9_person 90 = .ok (.iconst 1, 1) := dw_4 wX9_person_c rfl
theorem dX9_person_91 : decode cX9_person 91 = .ok (.iadd, 1) := dw_96 wX9_person_c rfl
theorem dX9_person_92 : decode cX9_person 92 = .ok (.putfield 125, 3) := dw_181 wX9_person_c 0 125 rfl rfl
theorem dX9_person_95 : decode cX9_person 95 = .ok (.aload 7, 2) := dw_25 wX9_person_c 7 rfl
theorem dX9_person_97 : decode cX9_person 97 = .ok (.getfield 143, 3) := dw_180 wX9_person_c 0 143 rfl rfl
theorem dX9_person_100 : decode cX9_person 100 = .ok (.ireturn, 1) := dw_172 wX9_person_c rfl
end
section
/-! STRING CONSTANTS: calls on them -/
section HXSTR
variable {p : Program} {l : Launch} {e : Env} {R : Room} {s : State} {m : MethodId} {args : Array Value} {below : List Frame} {meth : Method} {c : Code} {H : Heap} {locs : List Loc} {cells slots : Nat} {Q : State → Prop}
variable {cc : ByteArray} {pc : Nat} {ls : Array Slot} {rest st0 : List Value} {D : va_G} {cl : List vw_C} {A : Nat → Prop} {a : Nat} {tys : hx_y} {H0 : Heap} {tb : List hx_d} {L : List Nat} {h : hx_h}
variable {y : MethodName} {bytes : ByteArray} {maxL nL mc ms n index : Nat} {ret : Option FieldType} {ws : List Cond} {rm : Room} {Ts : List Cond} {own C : String} {As : List Value} {Qc : Array Value → State → Outcome → State → Prop}
theorem hx_runVS (S : CallFix p m c cc nL s args Ts own) (hW : hx_W tb tys D cl A s.heap L h s H locs) {b0 : hx_z} (hZ : hx_Xt A b0 s) {i : Nat} (hi : i < 6) (hM : Met l y ws rm (va_Pc (.ref (b0.2.2.2.1 i) :: As) (hx_BX tb tys D cl L h H.size b0)) Qc mc ms (hx_A L H.size)) (cw : CallW R s args own "java/lang/String" index y bytes maxL ret ws rm mc ms n) (hn : As.length = n) (hsize : ls.size = nL) (hst : st0 = As.reverse ++ .ref (b0.2.2.2.1 i) :: rest) (hR : (rest.map fun v => v.category).sum ≤ 8) (hdg : decode cc pc = .ok (.invokevirtual index, 3)) (hf : cells + mc ≤ R.cells ∧ slots + ms ≤ R.slots) :
    va_Run p l e R s m args below meth c H locs cells slots mc ms (F0 m pc ls st0) rest (Qc (Value.ref (b0.2.2.2.1 i) :: As).toArray) (hx_A L H.size) :=
  va_runV S hM cw ⟨hx_blindX, vk_recv hZ.2.2.2.2.2.2.2.2.2.2.2.2.1 hi hW.2.2.2.1, hx_preX hW hZ⟩ rfl hn hsize hst (lv_room hR) hdg hf
theorem hx_runSX (S : CallFix p m c cc nL s args Ts own) (hW : hx_W tb tys D cl A s.heap L h s H locs) {b0 : hx_z} (hM : Met l y ws rm (va_Pc As (hx_BX tb tys D cl L h H.size b0)) Qc mc ms (hx_A L H.size)) (hZ : hx_Xt A b0 s) (cw : CallB R s args own index y bytes maxL ret ws rm mc ms n ∧ (Cond.static y).before args s = true) (hn : As.length = n) (hsize : ls.size = nL) (hst : st0 = As.reverse ++ rest) (hR : (rest.map fun v => v.category).sum ≤ 8) (hdg : decode cc pc = .ok (.invokestatic index, 3)) (hf : cells + mc ≤ R.cells ∧ slots + ms ≤ R.slots) :
    va_Run p l e R s m args below meth c H locs cells slots mc ms (F0 m pc ls st0) rest (Qc As.toArray) (hx_A L H.size) :=
  va_runS S hM cw ⟨hx_blindX, hx_preX hW hZ⟩ rfl hn hsize hst (lv_room hR) hdg hf
end HXSTR
theorem hx_ln : ∀ i, i < 6 → (Int32.ofNat (P_ln.getD i 0)).toInt = ((P_ln.getD i 0 : Nat) : Int) ∧ 0 ≤ (Int32.ofNat (P_ln.getD i 0)).toInt ∧ (Int32.ofNat (P_ln.getD i 0)).toInt ≤ 96 := by decide +kernel
theorem hx_shr0 (x : Int32) : x >>> ((0 : Int32) &&& 31) = x := by
  have e : ((0 : Int32) &&& 31) = 0 := by decide
  rw [e]; exact Int32.shiftRight_zero
theorem hx_narc (x : Int32) : narrow .char (.int (x.toUInt32 % 65536).toInt32) = .int (x.toUInt32 % 65536).toInt32 := by
  show Value.int ((x.toUInt32 % 65536).toInt32).toUInt32.toUInt16.toUInt32.toInt32 = _
  congr 1
  rw [← lg_i2c_nf]
  congr 1
  apply UInt32.toNat_inj.mp
  simp
theorem hx_cl {i : Int32} (h : 0 ≤ i.toInt) : (i.toNatClampNeg : Int) = i.toInt := by unfold Int32.toNatClampNeg; omega
theorem hx_hole {h h1 : hx_h} {q v : Nat} {i : Int32} {c : Int} (hp : ∀ j : Nat, (j : Int) < c → (j : Int) ≠ i.toInt → h.2.2 q j ≠ none) (h0 : 0 ≤ i.toInt) (eh : h1 = hx_pr h q i.toNatClampNeg (some v)) : ∀ j : Nat, (j : Int) < c → h1.2.2 q j ≠ none := by
  subst eh
  intro j hj
  by_cases z : j = i.toNatClampNeg
  · subst z; rw [hx_pr_at]; nofun
  · rw [hx_pr_ne _ _ (fun w => z w.2)]
    exact hp j hj (fun w => z (by unfold Int32.toNatClampNeg; omega))
end
section
theorem dJ0_coder_7d493_0 : decode cJ0_coder_7d493 0 = .ok (.getstatic 38, 3) := by decide +kernel
theorem dJ0_coder_7d493_3 : decode cJ0_coder_7d493 3 = .ok (.ifCond .eq 10, 3) := by decide +kernel
theorem dJ0_coder_7d493_6 : decode cJ0_coder_7d493 6 = .ok (.aload_n 0, 1) := by decide +kernel
theorem dJ0_coder_7d493_7 : decode cJ0_coder_7d493 7 = .ok (.getfield 15, 3) := by decide +kernel
theorem dJ0_coder_7d493_10 : decode cJ0_coder_7d493 10 = .ok (.goto 4, 3) := by decide +kernel
theorem dJ0_coder_7d493_14 : decode cJ0_coder_7d493 14 = .ok (.ireturn, 1) := by decide +kernel
set_option maxHeartbeats 4000000 in
set_option maxRecDepth 100000 in
theorem t_J0_coder_7d493 (l : Launch) (dC : Nat → ClassId) (dI : Nat → Nat → Nat) (dA : Nat → ClassId) (L : List Nat) (h : hx_h) (sz : Nat) (b0 : hx_z) (js : Nat) (hT : hx_T T_tb L h) (hjs : js < 6)  : Met l yJ0_coder_7d493 (Cond.code yJ0_coder_7d493 cJ0_coder_7d493 1 (some .byte) :: hx_all) ({ frames := 0, cells := 0, slots := 0, locals := 0 }) (va_Pc [.ref (b0.2.2.2.1 js)] (hx_BX T_tb (P_ty dA) (dC, dI) vwCl L h sz b0)) (va_Qi (fun (r : Int32) (u : List Nat × hx_h) => (r = 0) ∧ hx_T T_tb u.1 u.2 ∧ hx_S T_tb [] L h u.1 u.2) (hx_E T_tb (P_ty dA) (dC, dI) vwCl (hx_A L sz)) (hx_A L sz)) 0 0 (hx_A L sz) := by
  refine hx_metX (lv := [(0, .ref (b0.2.2.2.1 js))]) (by decide +kernel) rfl (Nat.le_of_ble_eq_true rfl) rfl ?_
  intro p e s m below meth c hx hb hml hr hlk hts0 hown hin hsz hW hZ ls hl
  have hts : ∀ w ∈ hx_all, w.before _ s = true := fun w hw => hts0 w (List.mem_cons_of_mem _ hw)
  have hown : s.vm.findClass "java/lang/String" = some m.cls := hown
  have hM : hx_S T_tb [] L h L h := hx_S.rf
  obtain ⟨zLT, zLA, zMT, zMA, zCS, zSF, zVS, zVR⟩ := hZ.2.2.2.2.2.2
  refine va_gets hx hb zCS hW.2.2.2.1 hown (hts _ kw_480) (fun _ h9 => h9) dJ0_coder_7d493_0 ?_
  refine hb_if_eq (zx := 1) (tgt := 13) hx hb ?o0 dJ0_coder_7d493_3 ?o1 (fun c_1 => absurd c_1 ?o2) (fun c_1 => ?_)
  case o0 => decide
  case o1 => decide
  case o2 => decide
  refine lv_aload_n hx hb dJ0_coder_7d493_6 rfl (lv_at hl 0 rfl) ?_
  refine vk_getf hx hb (zVS.1 js hjs).2.1 hW.2.2.2.1 hown (hts _ kw_1755) (fun _ h9 => h9) dJ0_coder_7d493_7 ?_
  refine lv_goto (tgt := 14) hx hb dJ0_coder_7d493_10 ?o3 ?_
  case o3 => decide
  exact hx_retz hx hb hr rfl hlk hW ⟨rfl, hT, hM⟩ dJ0_coder_7d493_14

theorem dJ0_isLatin1_aae02_0 : decode cJ0_isLatin1_aae02 0 = .ok (.getstatic 38, 3) := by decide +kernel
theorem dJ0_isLatin1_aae02_3 : decode cJ0_isLatin1_aae02 3 = .ok (.ifCond .eq 14, 3) := by decide +kernel
theorem dJ0_isLatin1_aae02_6 : decode cJ0_isLatin1_aae02 6 = .ok (.aload_n 0, 1) := by decide +kernel
theorem dJ0_isLatin1_aae02_7 : decode cJ0_isLatin1_aae02 7 = .ok (.getfield 15, 3) := by decide +kernel
theorem dJ0_isLatin1_aae02_10 : decode cJ0_isLatin1_aae02 10 = .ok (.ifCond .ne 7, 3) := by decide +kernel
theorem dJ0_isLatin1_aae02_13 : decode cJ0_isLatin1_aae02 13 = .ok (.iconst 1, 1) := by decide +kernel
theorem dJ0_isLatin1_aae02_14 : decode cJ0_isLatin1_aae02 14 = .ok (.goto 4, 3) := by decide +kernel
theorem dJ0_isLatin1_aae02_18 : decode cJ0_isLatin1_aae02 18 = .ok (.ireturn, 1) := by decide +kernel
set_option maxHeartbeats 4000000 in
set_option maxRecDepth 100000 in
theorem t_J0_isLatin1_aae02 (l : Launch) (dC : Nat → ClassId) (dI : Nat → Nat → Nat) (dA : Nat → ClassId) (L : List Nat) (h : hx_h) (sz : Nat) (b0 : hx_z) (js : Nat) (hT : hx_T T_tb L h) (hjs : js < 6)  : Met l yJ0_isLatin1_aae02 (Cond.code yJ0_isLatin1_aae02 cJ0_isLatin1_aae02 1 (some .boolean) :: hx_all) ({ frames := 0, cells := 0, slots := 0, locals := 0 }) (va_Pc [.ref (b0.2.2.2.1 js)] (hx_BX T_tb (P_ty dA) (dC, dI) vwCl L h sz b0)) (va_Qi (fun (r : Int32) (u : List Nat × hx_h) => (r = 1) ∧ hx_T T_tb u.1 u.2 ∧ hx_S T_tb [] L h u.1 u.2) (hx_E T_tb (P_ty dA) (dC, dI) vwCl (hx_A L sz)) (hx_A L sz)) 0 0 (hx_A L sz) := by
  refine hx_metX (lv := [(0, .ref (b0.2.2.2.1 js))]) (by decide +kernel) rfl (Nat.le_of_ble_eq_true rfl) rfl ?_
  intro p e s m below meth c hx hb hml hr hlk hts0 hown hin hsz hW hZ ls hl
  have hts : ∀ w ∈ hx_all, w.before _ s = true := fun w hw => hts0 w (List.mem_cons_of_mem _ hw)
  have hown : s.vm.findClass "java/lang/String" = some m.cls := hown
  have hM : hx_S T_tb [] L h L h := hx_S.rf
  obtain ⟨zLT, zLA, zMT, zMA, zCS, zSF, zVS, zVR⟩ := hZ.2.2.2.2.2.2
  refine va_gets hx hb zCS hW.2.2.2.1 hown (hts _ kw_480) (fun _ h9 => h9) dJ0_isLatin1_aae02_0 ?_
  refine hb_if_eq (zx := 1) (tgt := 17) hx hb ?o0 dJ0_isLatin1_aae02_3 ?o1 (fun c_1 => absurd c_1 ?o2) (fun c_1 => ?_)
  case o0 => decide
  case o1 => decide
  case o2 => decide
  refine lv_aload_n hx hb dJ0_isLatin1_aae02_6 rfl (lv_at hl 0 rfl) ?_
  refine vk_getf hx hb (zVS.1 js hjs).2.1 hW.2.2.2.1 hown (hts _ kw_1755) (fun _ h9 => h9) dJ0_isLatin1_aae02_7 ?_
  refine hb_if_ne (zx := 0) (tgt := 17) hx hb ?o3 dJ0_isLatin1_aae02_10 ?o4 (fun c_2 => absurd c_2 ?o5) (fun c_2 => ?_)
  case o3 => decide
  case o4 => decide
  case o5 => decide
  refine lv_iconst (v := 1) hx hb dJ0_isLatin1_aae02_13 ?o6 ?_
  case o6 => decide
  refine lv_goto (tgt := 18) hx hb dJ0_isLatin1_aae02_14 ?o7 ?_
  case o7 => decide
  exact hx_retz hx hb hr rfl hlk hW ⟨rfl, hT, hM⟩ dJ0_isLatin1_aae02_18

theorem dJ0_length_8abf5_0 : decode cJ0_length_8abf5 0 = .ok (.aload_n 0, 1) := by decide +kernel
theorem dJ0_length_8abf5_1 : decode cJ0_length_8abf5 1 = .ok (.getfield 9, 3) := by decide +kernel
theorem dJ0_length_8abf5_4 : decode cJ0_length_8abf5 4 = .ok (.arraylength, 1) := by decide +kernel
theorem dJ0_length_8abf5_5 : decode cJ0_length_8abf5 5 = .ok (.aload_n 0, 1) := by decide +kernel
theorem dJ0_length_8abf5_6 : decode cJ0_length_8abf5 6 = .ok (.invokevirtual 335, 3) := by decide +kernel
theorem dJ0_length_8abf5_9 : decode cJ0_length_8abf5 9 = .ok (.ishr, 1) := by decide +kernel
theorem dJ0_length_8abf5_10 : decode cJ0_length_8abf5 10 = .ok (.ireturn, 1) := by decide +kernel
set_option maxHeartbeats 4000000 in
set_option maxRecDepth 100000 in
theorem t_J0_length_8abf5 (l : Launch) (dC : Nat → ClassId) (dI : Nat → Nat → Nat) (dA : Nat → ClassId) (L : List Nat) (h : hx_h) (sz : Nat) (b0 : hx_z) (js : Nat) (hT : hx_T T_tb L h) (hjs : js < 6)  : Met l yJ0_length_8abf5 (Cond.code yJ0_length_8abf5 cJ0_length_8abf5 1 (some .int) :: hx_all) ({ frames := 1, cells := 0, slots := 0, locals := 20 }) (va_Pc [.ref (b0.2.2.2.1 js)] (hx_BX T_tb (P_ty dA) (dC, dI) vwCl L h sz b0)) (va_Qi (fun (r : Int32) (u : List Nat × hx_h) => (r = Int32.ofNat (P_ln.getD js 0)) ∧ hx_T T_tb u.1 u.2 ∧ hx_S T_tb [] L h u.1 u.2) (hx_E T_tb (P_ty dA) (dC, dI) vwCl (hx_A L sz)) (hx_A L sz)) 0 0 (hx_A L sz) := by
  refine hx_metX (lv := [(0, .ref (b0.2.2.2.1 js))]) (by decide +kernel) rfl (Nat.le_of_ble_eq_true rfl) rfl ?_
  intro p e s m below meth c hx hb hml hr hlk hts0 hown hin hsz hW hZ ls hl
  have hts : ∀ w ∈ hx_all, w.before _ s = true := fun w hw => hts0 w (List.mem_cons_of_mem _ hw)
  have hown : s.vm.findClass "java/lang/String" = some m.cls := hown
  have hM : hx_S T_tb [] L h L h := hx_S.rf
  obtain ⟨zLT, zLA, zMT, zMA, zCS, zSF, zVS, zVR⟩ := hZ.2.2.2.2.2.2
  refine lv_aload_n hx hb dJ0_length_8abf5_0 rfl (lv_at hl 0 rfl) ?_
  refine vk_getf hx hb (zVS.1 js hjs).2.2.1 hW.2.2.2.1 hown (hts _ kw_1754) (fun _ h9 => h9) dJ0_length_8abf5_1 ?_
  refine va_tlen hx hb (zVS.1 js hjs).2.2.2 hW.2.2.2.1 rfl dJ0_length_8abf5_4 ?_
  refine lv_topi (fun xl_1 exl_1 => ?_)
  have lxl_1 := hx_ln js hjs; rw [← exl_1] at lxl_1
  have kxl_1 : (Int32.ofNat (P_ln.getD js 0)).toInt = xl_1.toInt := ?o0
  case o0 => rw [exl_1]
  refine lv_aload_n hx hb dJ0_length_8abf5_5 rfl (lv_at hl 0 rfl) ?_
  refine hx_goi (hx_runVS (As := []) (rest := [.int xl_1]) ⟨hx, hb, hml, hown, hts⟩ hW hZ (i := js) hjs (t_J0_coder_7d493 l dC dI dA L h s.heap.size b0 js hT hjs) (cwV 0 hts (hx_gV kw_479 kw_476 kw_477 kw_478 kw_104) rfl rfl rfl (by decide +kernel) ⟨Nat.le_of_ble_eq_true rfl, Nat.le_of_ble_eq_true rfl⟩) rfl hl.1 rfl (Nat.le_of_ble_eq_true rfl) dJ0_length_8abf5_6 ⟨Nat.le_of_ble_eq_true rfl, Nat.le_of_ble_eq_true rfl⟩) hW (fun r_4 L_2 h_3 H locs p_5 hW => ?_)
  obtain ⟨hr_6, hT, hs⟩ := p_5
  replace hT : hx_T T_tb L_2 h_3 := hT
  replace hs : hx_S T_tb [] L h L_2 h_3 := hs
  replace hM := hM.tr (hs.mono ?o1)
  case o1 => decide
  obtain rfl : r_4 = 0 := hr_6
  refine lv_ishr hx hb dJ0_length_8abf5_9 ?_
  rw [hx_shr0]
  exact hx_reti hx hb hr hlk hW ⟨exl_1, hT, hM⟩ dJ0_length_8abf5_10

theorem dJ3_checkIndex_8e157_0 : decode cJ3_checkIndex_8e157 0 = .ok (.iload_n 0, 1) := by decide +kernel
theorem dJ3_checkIndex_8e157_1 : decode cJ3_checkIndex_8e157 1 = .ok (.ifCond .lt 8, 3) := by decide +kernel
theorem dJ3_checkIndex_8e157_4 : decode cJ3_checkIndex_8e157 4 = .ok (.iload_n 0, 1) := by decide +kernel
theorem dJ3_checkIndex_8e157_5 : decode cJ3_checkIndex_8e157 5 = .ok (.iload_n 1, 1) := by decide +kernel
theorem dJ3_checkIndex_8e157_6 : decode cJ3_checkIndex_8e157 6 = .ok (.if_icmp .lt 10, 3) := by decide +kernel
theorem dJ3_checkIndex_8e157_16 : decode cJ3_checkIndex_8e157 16 = .ok (.iload_n 0, 1) := by decide +kernel
theorem dJ3_checkIndex_8e157_17 : decode cJ3_checkIndex_8e157 17 = .ok (.ireturn, 1) := by decide +kernel
set_option maxHeartbeats 4000000 in
set_option maxRecDepth 100000 in
theorem t_J3_checkIndex_n (l : Launch) (dC : Nat → ClassId) (dI : Nat → Nat → Nat) (dA : Nat → ClassId) (L : List Nat) (h : hx_h) (sz : Nat) (i1 : Int32) (i2 : Int32) (hT : hx_T T_tb L h)  (hi1 : 0 ≤ i1.toInt ∧ i1.toInt < i2.toInt) : Met l yJ3_checkIndex_8e157 (Cond.code yJ3_checkIndex_8e157 cJ3_checkIndex_8e157 3 (some .int) :: hx_all) ({ frames := 0, cells := 0, slots := 0, locals := 0 }) (va_Pc [.int i1, .int i2, .null] (hx_B T_tb (P_ty dA) (dC, dI) vwCl L h sz)) (va_Qi (fun (r : Int32) (u : List Nat × hx_h) => (True) ∧ hx_T T_tb u.1 u.2 ∧ hx_S T_tb [] L h u.1 u.2) (hx_E T_tb (P_ty dA) (dC, dI) vwCl (hx_A L sz)) (hx_A L sz)) 0 0 (hx_A L sz) := by
  refine hx_met (lv := [(0, .int i1), (1, .int i2), (2, .null)]) (by decide +kernel) rfl (Nat.le_of_ble_eq_true rfl) rfl ?_
  intro p e s m below meth c hx hb hml hr hlk hts0 hown hin hsz hW ls hl
  have hts : ∀ w ∈ hx_all, w.before _ s = true := fun w hw => hts0 w (List.mem_cons_of_mem _ hw)
  have hown : s.vm.findClass "jdk/internal/util/Preconditions" = some m.cls := hown
  have hM : hx_S T_tb [] L h L h := hx_S.rf
  refine lv_iload_n hx hb dJ3_checkIndex_8e157_0 rfl (lv_at hl 0 rfl) ?_
  refine hb_if_lt (zx := i1.toInt) (tgt := 9) hx hb rfl dJ3_checkIndex_8e157_1 ?o0 (fun c_1 => ?o1) (fun c_1 => ?_)
  case o0 => decide
  case o1 =>
    exfalso
    omega
  refine lv_iload_n hx hb dJ3_checkIndex_8e157_4 rfl (lv_at hl 0 rfl) ?_
  refine lv_iload_n hx hb dJ3_checkIndex_8e157_5 rfl (lv_at hl 1 rfl) ?_
  refine hb_icmp_lt (zx := i1.toInt) (zy := i2.toInt) (tgt := 16) hx hb rfl rfl dJ3_checkIndex_8e157_6 ?o2 (fun c_2 => ?_) (fun c_2 => ?o3)
  case o2 => decide
  case o3 =>
    exfalso
    omega
  refine lv_iload_n hx hb dJ3_checkIndex_8e157_16 rfl (lv_at hl 0 rfl) ?_
  exact hx_reti hx hb hr hlk hW ⟨trivial, hT, hM⟩ dJ3_checkIndex_8e157_17


set_option maxHeartbeats 4000000 in
set_option maxRecDepth 100000 in
theorem t_J3_checkIndex_r (l : Launch) (dC : Nat → ClassId) (dI : Nat → Nat → Nat) (dA : Nat → ClassId) (L : List Nat) (h : hx_h) (sz : Nat) (i1 : Int32) (i2 : Int32) (t3 : Nat) (hT : hx_T T_tb L h)  (hi1 : 0 ≤ i1.toInt ∧ i1.toInt < i2.toInt) : Met l yJ3_checkIndex_8e157 (Cond.code yJ3_checkIndex_8e157 cJ3_checkIndex_8e157 3 (some .int) :: hx_all) ({ frames := 0, cells := 0, slots := 0, locals := 0 }) (va_Pc [.int i1, .int i2, .ref t3] (hx_B T_tb (P_ty dA) (dC, dI) vwCl L h sz)) (va_Qi (fun (r : Int32) (u : List Nat × hx_h) => (True) ∧ hx_T T_tb u.1 u.2 ∧ hx_S T_tb [] L h u.1 u.2) (hx_E T_tb (P_ty dA) (dC, dI) vwCl (hx_A L sz)) (hx_A L sz)) 0 0 (hx_A L sz) := by
  refine hx_met (lv := [(0, .int i1), (1, .int i2), (2, .ref t3)]) (by decide +kernel) rfl (Nat.le_of_ble_eq_true rfl) rfl ?_
  intro p e s m below meth c hx hb hml hr hlk hts0 hown hin hsz hW ls hl
  have hts : ∀ w ∈ hx_all, w.before _ s = true := fun w hw => hts0 w (List.mem_cons_of_mem _ hw)
  have hown : s.vm.findClass "jdk/internal/util/Preconditions" = some m.cls := hown
  have hM : hx_S T_tb [] L h L h := hx_S.rf
  refine lv_iload_n hx hb dJ3_checkIndex_8e157_0 rfl (lv_at hl 0 rfl) ?_
  refine hb_if_lt (zx := i1.toInt) (tgt := 9) hx hb rfl dJ3_checkIndex_8e157_1 ?o0 (fun c_1 => ?o1) (fun c_1 => ?_)
  case o0 => decide
  case o1 =>
    exfalso
    omega
  refine lv_iload_n hx hb dJ3_checkIndex_8e157_4 rfl (lv_at hl 0 rfl) ?_
  refine lv_iload_n hx hb dJ3_checkIndex_8e157_5 rfl (lv_at hl 1 rfl) ?_
  refine hb_icmp_lt (zx := i1.toInt) (zy := i2.toInt) (tgt := 16) hx hb rfl rfl dJ3_checkIndex_8e157_6 ?o2 (fun c_2 => ?_) (fun c_2 => ?o3)
  case o2 => decide
  case o3 =>
    exfalso
    omega
  refine lv_iload_n hx hb dJ3_checkIndex_8e157_16 rfl (lv_at hl 0 rfl) ?_
  exact hx_reti hx hb hr hlk hW ⟨trivial, hT, hM⟩ dJ3_checkIndex_8e157_17

theorem dJ0_checkIndex_df160_0 : decode cJ0_checkIndex_df160 0 = .ok (.iload_n 0, 1) := by decide +kernel
theorem dJ0_checkIndex_df160_1 : decode cJ0_checkIndex_df160 1 = .ok (.iload_n 1, 1) := by decide +kernel
theorem dJ0_checkIndex_df160_2 : decode cJ0_checkIndex_df160 2 = .ok (.getstatic 1053, 3) := by decide +kernel
theorem dJ0_checkIndex_df160_5 : decode cJ0_checkIndex_df160 5 = .ok (.invokestatic 1059, 3) := by decide +kernel
theorem dJ0_checkIndex_df160_8 : decode cJ0_checkIndex_df160 8 = .ok (.pop, 1) := by decide +kernel
theorem dJ0_checkIndex_df160_9 : decode cJ0_checkIndex_df160 9 = .ok (.return_, 1) := by decide +kernel
set_option maxHeartbeats 4000000 in
set_option maxRecDepth 100000 in
theorem t_J0_checkIndex_df160 (l : Launch) (dC : Nat → ClassId) (dI : Nat → Nat → Nat) (dA : Nat → ClassId) (L : List Nat) (h : hx_h) (sz : Nat) (b0 : hx_z) (i1 : Int32) (i2 : Int32) (hT : hx_T T_tb L h)  (hi1 : 0 ≤ i1.toInt ∧ i1.toInt < i2.toInt) : Met l yJ0_checkIndex_df160 (Cond.code yJ0_checkIndex_df160 cJ0_checkIndex_df160 2 none :: hx_all) ({ frames := 1, cells := 0, slots := 0, locals := 22 }) (va_Pc [.int i1, .int i2] (hx_BX T_tb (P_ty dA) (dC, dI) vwCl L h sz b0)) (va_Qv (fun (u : List Nat × hx_h) => hx_T T_tb u.1 u.2 ∧ hx_S T_tb [] L h u.1 u.2) (hx_E T_tb (P_ty dA) (dC, dI) vwCl (hx_A L sz)) (hx_A L sz)) 0 0 (hx_A L sz) := by
  refine hx_metX (lv := [(0, .int i1), (1, .int i2)]) (by decide +kernel) rfl (Nat.le_of_ble_eq_true rfl) rfl ?_
  intro p e s m below meth c hx hb hml hr hlk hts0 hown hin hsz hW hZ ls hl
  have hts : ∀ w ∈ hx_all, w.before _ s = true := fun w hw => hts0 w (List.mem_cons_of_mem _ hw)
  have hown : s.vm.findClass "java/lang/String" = some m.cls := hown
  have hM : hx_S T_tb [] L h L h := hx_S.rf
  obtain ⟨zLT, zLA, zMT, zMA, zCS, zSF, zVS, zVR⟩ := hZ.2.2.2.2.2.2
  refine lv_iload_n hx hb dJ0_checkIndex_df160_0 rfl (lv_at hl 0 rfl) ?_
  refine lv_iload_n hx hb dJ0_checkIndex_df160_1 rfl (lv_at hl 1 rfl) ?_
  rcases zSF with zF | ⟨tF, zF⟩
  · refine va_gets hx hb zF hW.2.2.2.1 hown (hts _ kw_500) (fun _ h9 => h9) dJ0_checkIndex_df160_2 ?_
    refine hx_goi (hx_runS (As := [.int i1, .int i2, .null]) (rest := []) ⟨hx, hb, hml, hown, hts⟩ hW (t_J3_checkIndex_n l dC dI dA L h s.heap.size i1 i2 hT ⟨?o0, ?o1⟩) (va_cwS 3 hts (hx_gS kw_504 kw_502 kw_503 kw_106) rfl rfl rfl (by decide +kernel) ⟨Nat.le_of_ble_eq_true rfl, Nat.le_of_ble_eq_true rfl⟩) rfl hl.1 rfl (Nat.le_of_ble_eq_true rfl) dJ0_checkIndex_df160_5 ⟨Nat.le_of_ble_eq_true rfl, Nat.le_of_ble_eq_true rfl⟩) hW (fun r_3 L_1 h_2 H locs p_4 hW => ?_)
    case o0 => omega
    case o1 => omega
    obtain ⟨hr_5, hT, hs⟩ := p_4
    replace hT : hx_T T_tb L_1 h_2 := hT
    replace hs : hx_S T_tb [] L h L_1 h_2 := hs
    replace hM := hM.tr (hs.mono ?o2)
    case o2 => decide
    refine lv_pop hx hb dJ0_checkIndex_df160_8 rfl ?_
    exact hx_retv hx hb hr hlk hW ⟨hT, hM⟩ dJ0_checkIndex_df160_9
  · refine va_gets hx hb zF hW.2.2.2.1 hown (hts _ kw_500) (fun _ h9 => h9) dJ0_checkIndex_df160_2 ?_
    refine hx_goi (hx_runS (As := [.int i1, .int i2, .ref tF]) (rest := []) ⟨hx, hb, hml, hown, hts⟩ hW (t_J3_checkIndex_r l dC dI dA L h s.heap.size i1 i2 tF hT ⟨?o3, ?o4⟩) (va_cwS 3 hts (hx_gS kw_504 kw_502 kw_503 kw_106) rfl rfl rfl (by decide +kernel) ⟨Nat.le_of_ble_eq_true rfl, Nat.le_of_ble_eq_true rfl⟩) rfl hl.1 rfl (Nat.le_of_ble_eq_true rfl) dJ0_checkIndex_df160_5 ⟨Nat.le_of_ble_eq_true rfl, Nat.le_of_ble_eq_true rfl⟩) hW (fun r_8 L_6 h_7 H locs p_9 hW => ?_)
    case o3 => omega
    case o4 => omega
    obtain ⟨hr_10, hT, hs⟩ := p_9
    replace hT : hx_T T_tb L_6 h_7 := hT
    replace hs : hx_S T_tb [] L h L_6 h_7 := hs
    replace hM := hM.tr (hs.mono ?o5)
    case o5 => decide
    refine lv_pop hx hb dJ0_checkIndex_df160_8 rfl ?_
    exact hx_retv hx hb hr hlk hW ⟨hT, hM⟩ dJ0_checkIndex_df160_9

theorem dJ1_charAt_3b067_0 : decode cJ1_charAt_3b067 0 = .ok (.iload_n 1, 1) := by decide +kernel
theorem dJ1_charAt_3b067_1 : decode cJ1_charAt_3b067 1 = .ok (.aload_n 0, 1) := by decide +kernel
theorem dJ1_charAt_3b067_2 : decode cJ1_charAt_3b067 2 = .ok (.arraylength, 1) := by decide +kernel
theorem dJ1_charAt_3b067_3 : decode cJ1_charAt_3b067 3 = .ok (.invokestatic 9, 3) := by decide +kernel
theorem dJ1_charAt_3b067_6 : decode cJ1_charAt_3b067 6 = .ok (.aload_n 0, 1) := by decide +kernel
theorem dJ1_charAt_3b067_7 : decode cJ1_charAt_3b067 7 = .ok (.iload_n 1, 1) := by decide +kernel
theorem dJ1_charAt_3b067_8 : decode cJ1_charAt_3b067 8 = .ok (.baload, 1) := by decide +kernel
theorem dJ1_charAt_3b067_9 : decode cJ1_charAt_3b067 9 = .ok (.sipush 255, 3) := by decide +kernel
theorem dJ1_charAt_3b067_12 : decode cJ1_charAt_3b067 12 = .ok (.iand, 1) := by decide +kernel
theorem dJ1_charAt_3b067_13 : decode cJ1_charAt_3b067 13 = .ok (.i2c, 1) := by decide +kernel
theorem dJ1_charAt_3b067_14 : decode cJ1_charAt_3b067 14 = .ok (.ireturn, 1) := by decide +kernel
theorem dJ0_charAt_5068e_0 : decode cJ0_charAt_5068e 0 = .ok (.aload_n 0, 1) := by decide +kernel
theorem dJ0_charAt_5068e_1 : decode cJ0_charAt_5068e 1 = .ok (.invokevirtual 492, 3) := by decide +kernel
theorem dJ0_charAt_5068e_4 : decode cJ0_charAt_5068e 4 = .ok (.ifCond .eq 12, 3) := by decide +kernel
theorem dJ0_charAt_5068e_7 : decode cJ0_charAt_5068e 7 = .ok (.aload_n 0, 1) := by decide +kernel
theorem dJ0_charAt_5068e_8 : decode cJ0_charAt_5068e 8 = .ok (.getfield 9, 3) := by decide +kernel
theorem dJ0_charAt_5068e_11 : decode cJ0_charAt_5068e 11 = .ok (.iload_n 1, 1) := by decide +kernel
theorem dJ0_charAt_5068e_12 : decode cJ0_charAt_5068e 12 = .ok (.invokestatic 495, 3) := by decide +kernel
theorem dJ0_charAt_5068e_15 : decode cJ0_charAt_5068e 15 = .ok (.ireturn, 1) := by decide +kernel
end
section
def wNX6_skipBlanks : Nat := 5797149586397577641311587849809773256991437404183184045180297343722141512820016245399890211882
theorem wX6_skipBlanks_c : hz_cd cX6_skipBlanks wNX6_skipBlanks 39 := ⟨by decide +kernel, by decide +kernel⟩
theorem dX6_skipBlanks_0 : decode cX6_skipBlanks 0 = .ok (.aload_n 0, 1) := dw_42 wX6_skipBlanks_c rfl
theorem dX6_skipBlanks_1 : decode cX6_skipBlanks 1 = .ok (.getfield 19, 3) := dw_180 wX6_skipBlanks_c 0 19 rfl rfl
theorem dX6_skipBlanks_4 : decode cX6_skipBlanks 4 = .ok (.aload_n 0, 1) := dw_42 wX6_skipBlanks_c rfl
theorem dX6_skipBlanks_5 : decode cX6_skipBlanks 5 = .ok (.getfield 15, 3) := dw_180 wX6_skipBlanks_c 0 15 rfl rfl
theorem dX6_skipBlanks_8 : decode cX6_skipBlanks 8 = .ok (.if_icmp .ge 30, 3) := dw_162 wX6_skipBlanks_c 0 30 rfl rfl rfl
theorem dX6_skipBlanks_11 : decode cX6_skipBlanks 11 = .ok (.aload_n 0, 1) := dw_42 wX6_skipBlanks_c rfl
theorem dX6_skipBlanks_12 : decode cX6_skipBlanks 12 = .ok (.getfield 9, 3) := dw_180 wX6_skipBlanks_c 0 9 rfl rfl
theorem dX6_skipBlanks_15 : decode cX6_skipBlanks 15 = .ok (.aload_n 0, 1) := dw_42 wX6_skipBlanks_c rfl
theorem dX6_skipBlanks_16 : decode cX6_skipBlanks 16 = .ok (.getfield 19, 3) := dw_180 wX6_skipBlanks_c 0 19 rfl rfl
theorem dX6_skipBlanks_19 : decode cX6_skipBlanks 19 = .ok (.baload, 1) := dw_51 wX6_skipBlanks_c rfl
theorem dX6_skipBlanks_20 : decode cX6_skipBlanks 20 = .ok (.bipush 32, 2) := dw_16 wX6_skipBlanks_c 32 rfl rfl rfl
theorem dX6_skipBlanks_22 : decode cX6_skipBlanks 22 = .ok (.if_icmp .ne 16, 3) := dw_160 wX6_skipBlanks_c 0 16 rfl rfl rfl
theorem dX6_skipBlanks_25 : decode cX6_skipBlanks 25 = .ok (.aload_n 0, 1) := dw_42 wX6_skipBlanks_c rfl
theorem dX6_skipBlanks_26 : decode cX6_skipBlanks 26 = .ok (.dup, 1) := dw_89 wX6_skipBlanks_c rfl
theorem dX6_skipBlanks_27 : decode cX6_skipBlanks 27 = .ok (.getfield 19, 3) := dw_180 wX6_skipBlanks_c 0 19 rfl rfl
theorem dX6_skipBlanks_30 : decode cX6_skipBlanks 30 = .ok (.iconst 1, 1) := dw_4 wX6_skipBlanks_c rfl
theorem dX6_skipBlanks_31 : decode cX6_skipBlanks 31 = .ok (.iadd, 1) := dw_96 wX6_skipBlanks_c rfl
theorem dX6_skipBlanks_32 : decode cX6_skipBlanks 32 = .ok (.putfield 19, 3) := dw_181 wX6_skipBlanks_c 0 19 rfl rfl
theorem dX6_skipBlanks_35 : decode cX6_skipBlanks 35 = .ok (.goto (-35), 3) := dn_167 wX6_skipBlanks_c 255 221 rfl (by decide)
theorem dX6_skipBlanks_38 : decode cX6_skipBlanks 38 = .ok (.return_, 1) := dw_177 wX6_skipBlanks_c rfl
theorem dX6_isByte_0 : decode cX6_isByte 0 = .ok (.aload_n 0, 1) := by decide +kernel
theorem dX6_isByte_1 : decode cX6_isByte 1 = .ok (.getfield 19, 3) := by decide +kernel
theorem dX6_isByte_4 : decode cX6_isByte 4 = .ok (.aload_n 0, 1) := by decide +kernel
theorem dX6_isByte_5 : decode cX6_isByte 5 = .ok (.getfield 15, 3) := by decide +kernel
theorem dX6_isByte_8 : decode cX6_isByte 8 = .ok (.if_icmp .ge 20, 3) := by decide +kernel
theorem dX6_isByte_11 : decode cX6_isByte 11 = .ok (.aload_n 0, 1) := by decide +kernel
theorem dX6_isByte_12 : decode cX6_isByte 12 = .ok (.getfield 9, 3) := by decide +kernel
theorem dX6_isByte_15 : decode cX6_isByte 15 = .ok (.aload_n 0, 1) := by decide +kernel
theorem dX6_isByte_16 : decode cX6_isByte 16 = .ok (.getfield 19, 3) := by decide +kernel
theorem dX6_isByte_19 : decode cX6_isByte 19 = .ok (.baload, 1) := by decide +kernel
theorem dX6_isByte_20 : decode cX6_isByte 20 = .ok (.iload_n 1, 1) := by decide +kernel
theorem dX6_isByte_21 : decode cX6_isByte 21 = .ok (.if_icmp .ne 7, 3) := by decide +kernel
theorem dX6_isByte_24 : decode cX6_isByte 24 = .ok (.iconst 1, 1) := by decide +kernel
theorem dX6_isByte_25 : decode cX6_isByte 25 = .ok (.goto 4, 3) := by decide +kernel
theorem dX6_isByte_28 : decode cX6_isByte 28 = .ok (.iconst 0, 1) := by decide +kernel
theorem dX6_isByte_29 : decode cX6_isByte 29 = .ok (.ireturn, 1) := by decide +kernel
def wNX6_isSlot : Nat := 220908421599580458279216398101073128970577224514678602044272349682422818649586452079719607332472958964968876574105905861057448062478278414891206767923959114551156278917335750487284559488889512614768165285800477
theorem wX6_isSlot_c : hz_cd cX6_isSlot wNX6_isSlot 87 := ⟨by decide +kernel, by decide +kernel⟩
theorem dX6_isSlot_0 : decode cX6_isSlot 0 = .ok (.iload_n 3, 1) := dw_29 wX6_isSlot_c rfl
theorem dX6_isSlot_1 : decode cX6_isSlot 1 = .ok (.aload_n 0, 1) := dw_42 wX6_isSlot_c rfl
theorem dX6_isSlot_2 : decode cX6_isSlot 2 = .ok (.getfield 19, 3) := dw_180 wX6_isSlot_c 0 19 rfl rfl
theorem dX6_isSlot_5 : decode cX6_isSlot 5 = .ok (.isub, 1) := dw_100 wX6_isSlot_c rfl
theorem dX6_isSlot_6 : decode cX6_isSlot 6 = .ok (.bipush 8, 2) := dw_16 wX6_isSlot_c 8 rfl rfl rfl
theorem dX6_isSlot_8 : decode cX6_isSlot 8 = .ok (.if_icmp .le 5, 3) := dw_164 wX6_isSlot_c 0 5 rfl rfl rfl
theorem dX6_isSlot_11 : decode cX6_isSlot 11 = .ok (.iconst 0, 1) := dw_3 wX6_isSlot_c rfl
theorem dX6_isSlot_12 : decode cX6_isSlot 12 = .ok (.ireturn, 1) := dw_172 wX6_isSlot_c rfl
theorem dX6_isSlot_13 : decode cX6_isSlot 13 = .ok (.iconst 0, 1) := dw_3 wX6_isSlot_c rfl
theorem dX6_isSlot_14 : decode cX6_isSlot 14 = .ok (.istore 4, 2) := dw_54 wX6_isSlot_c 4 rfl
theorem dX6_isSlot_16 : decode cX6_isSlot 16 = .ok (.iload 4, 2) := dw_21 wX6_isSlot_c 4 rfl
theorem dX6_isSlot_18 : decode cX6_isSlot 18 = .ok (.bipush 8, 2) := dw_16 wX6_isSlot_c 8 rfl rfl rfl
theorem dX6_isSlot_20 : decode cX6_isSlot 20 = .ok (.if_icmp .ge 65, 3) := dw_162 wX6_isSlot_c 0 65 rfl rfl rfl
theorem dX6_isSlot_23 : decode cX6_isSlot 23 = .ok (.iload_n 2, 1) := dw_28 wX6_isSlot_c rfl
theorem dX6_isSlot_24 : decode cX6_isSlot 24 = .ok (.iload 4, 2) := dw_21 wX6_isSlot_c 4 rfl
theorem dX6_isSlot_26 : decode cX6_isSlot 26 = .ok (.iadd, 1) := dw_96 wX6_isSlot_c rfl
theorem dX6_isSlot_27 : decode cX6_isSlot 27 = .ok (.aload_n 1, 1) := dw_43 wX6_isSlot_c rfl
theorem dX6_isSlot_28 : decode cX6_isSlot 28 = .ok (.invokevirtual 128, 3) := dw_182 wX6_isSlot_c 0 128 rfl rfl
theorem dX6_isSlot_31 : decode cX6_isSlot 31 = .ok (.if_icmp .ge 54, 3) := dw_162 wX6_isSlot_c 0 54 rfl rfl rfl
theorem dX6_isSlot_34 : decode cX6_isSlot 34 = .ok (.aload_n 0, 1) := dw_42 wX6_isSlot_c rfl
theorem dX6_isSlot_35 : decode cX6_isSlot 35 = .ok (.getfield 19, 3) := dw_180 wX6_isSlot_c 0 19 rfl rfl
theorem dX6_isSlot_38 : decode cX6_isSlot 38 = .ok (.iload 4, 2) := dw_21 wX6_isSlot_c 4 rfl
theorem dX6_isSlot_40 : decode cX6_isSlot 40 = .ok (.iadd, 1) := dw_96 wX6_isSlot_c rfl
theorem dX6_isSlot_41 : decode cX6_isSlot 41 = .ok (.iload_n 3, 1) := dw_29 wX6_isSlot_c rfl
theorem dX6_isSlot_42 : decode cX6_isSlot 42 = .ok (.if_icmp .ge 18, 3) := dw_162 wX6_isSlot_c 0 18 rfl rfl rfl
theorem dX6_isSlot_45 : decode cX6_isSlot 45 = .ok (.aload_n 0, 1) := dw_42 wX6_isSlot_c rfl
theorem dX6_isSlot_46 : decode cX6_isSlot 46 = .ok (.getfield 9, 3) := dw_180 wX6_isSlot_c 0 9 rfl rfl
theorem dX6_isSlot_49 : decode cX6_isSlot 49 = .ok (.aload_n 0, 1) := dw_42 wX6_isSlot_c rfl
theorem dX6_isSlot_50 : decode cX6_isSlot 50 = .ok (.getfield 19, 3) := dw_180 wX6_isSlot_c 0 19 rfl rfl
theorem dX6_isSlot_53 : decode cX6_isSlot 53 = .ok (.iload 4, 2) := dw_21 wX6_isSlot_c 4 rfl
theorem dX6_isSlot_55 : decode cX6_isSlot 55 = .ok (.iadd, 1) := dw_96 wX6_isSlot_c rfl
theorem dX6_isSlot_56 : decode cX6_isSlot 56 = .ok (.baload, 1) := dw_51 wX6_isSlot_c rfl
theorem dX6_isSlot_57 : decode cX6_isSlot 57 = .ok (.goto 5, 3) := dw_167 wX6_isSlot_c 0 5 rfl rfl rfl
theorem dX6_isSlot_60 : decode cX6_isSlot 60 = .ok (.bipush 32, 2) := dw_16 wX6_isSlot_c 32 rfl rfl rfl
theorem dX6_isSlot_62 : decode cX6_isSlot 62 = .ok (.istore 5, 2) := dw_54 wX6_isSlot_c 5 rfl
theorem dX6_isSlot_64 : decode cX6_isSlot 64 = .ok (.aload_n 1, 1) := dw_43 wX6_isSlot_c rfl
theorem dX6_isSlot_65 : decode cX6_isSlot 65 = .ok (.iload_n 2, 1) := dw_28 wX6_isSlot_c rfl
theorem dX6_isSlot_66 : decode cX6_isSlot 66 = .ok (.iload 4, 2) := dw_21 wX6_isSlot_c 4 rfl
theorem dX6_isSlot_68 : decode cX6_isSlot 68 = .ok (.iadd, 1) := dw_96 wX6_isSlot_c rfl
theorem dX6_isSlot_69 : decode cX6_isSlot 69 = .ok (.invokevirtual 136, 3) := dw_182 wX6_isSlot_c 0 136 rfl rfl
theorem dX6_isSlot_72 : decode cX6_isSlot 72 = .ok (.iload 5, 2) := dw_21 wX6_isSlot_c 5 rfl
theorem dX6_isSlot_74 : decode cX6_isSlot 74 = .ok (.if_icmp .eq 5, 3) := dw_159 wX6_isSlot_c 0 5 rfl rfl rfl
theorem dX6_isSlot_77 : decode cX6_isSlot 77 = .ok (.iconst 0, 1) := dw_3 wX6_isSlot_c rfl
theorem dX6_isSlot_78 : decode cX6_isSlot 78 = .ok (.ireturn, 1) := dw_172 wX6_isSlot_c rfl
theorem dX6_isSlot_79 : decode cX6_isSlot 79 = .ok (.iinc 4 1, 3) := dw_132 wX6_isSlot_c 4 1 rfl rfl rfl
theorem dX6_isSlot_82 : decode cX6_isSlot 82 = .ok (.goto (-66), 3) := dn_167 wX6_isSlot_c 255 190 rfl (by decide)
theorem dX6_isSlot_85 : decode cX6_isSlot 85 = .ok (.iconst 1, 1) := dw_4 wX6_isSlot_c rfl
theorem dX6_isSlot_86 : decode cX6_isSlot 86 = .ok (.ireturn, 1) := dw_172 wX6_isSlot_c rfl
def wNX6_readWord : Nat := 32006226812738223832049829677963783030037384880323206860838670912416676305952039611108931273566292874114864336176995671246469367325482071594
theorem wX6_readWord_c : hz_cd cX6_readWord wNX6_readWord 58 := ⟨by decide +kernel, by decide +kernel⟩
theorem dX6_readWord_0 : decode cX6_readWord 0 = .ok (.aload_n 0, 1) := dw_42 wX6_readWord_c rfl
theorem dX6_readWord_1 : decode cX6_readWord 1 = .ok (.invokevirtual 35, 3) := dw_182 wX6_readWord_c 0 35 rfl rfl
theorem dX6_readWord_4 : decode cX6_readWord 4 = .ok (.aload_n 0, 1) := dw_42 wX6_readWord_c rfl
theorem dX6_readWord_5 : decode cX6_readWord 5 = .ok (.invokevirtual 125, 3) := dw_182 wX6_readWord_c 0 125 rfl rfl
theorem dX6_readWord_8 : decode cX6_readWord 8 = .ok (.istore_n 2, 1) := dw_61 wX6_readWord_c rfl
theorem dX6_readWord_9 : decode cX6_readWord 9 = .ok (.iconst 0, 1) := dw_3 wX6_readWord_c rfl
theorem dX6_readWord_10 : decode cX6_readWord 10 = .ok (.istore_n 3, 1) := dw_62 wX6_readWord_c rfl
theorem dX6_readWord_11 : decode cX6_readWord 11 = .ok (.iload_n 2, 1) := dw_28 wX6_readWord_c rfl
theorem dX6_readWord_12 : decode cX6_readWord 12 = .ok (.aload_n 0, 1) := dw_42 wX6_readWord_c rfl
theorem dX6_readWord_13 : decode cX6_readWord 13 = .ok (.getfield 19, 3) := dw_180 wX6_readWord_c 0 19 rfl rfl
theorem dX6_readWord_16 : decode cX6_readWord 16 = .ok (.if_icmp .le 40, 3) := dw_164 wX6_readWord_c 0 40 rfl rfl rfl
theorem dX6_readWord_19 : decode cX6_readWord 19 = .ok (.iload_n 3, 1) := dw_29 wX6_readWord_c rfl
theorem dX6_readWord_20 : decode cX6_readWord 20 = .ok (.bipush 8, 2) := dw_16 wX6_readWord_c 8 rfl rfl rfl
theorem dX6_readWord_22 : decode cX6_readWord 22 = .ok (.iadd, 1) := dw_96 wX6_readWord_c rfl
theorem dX6_readWord_23 : decode cX6_readWord 23 = .ok (.aload_n 1, 1) := dw_43 wX6_readWord_c rfl
theorem dX6_readWord_24 : decode cX6_readWord 24 = .ok (.invokevirtual 128, 3) := dw_182 wX6_readWord_c 0 128 rfl rfl
theorem dX6_readWord_27 : decode cX6_readWord 27 = .ok (.if_icmp .gt 29, 3) := dw_163 wX6_readWord_c 0 29 rfl rfl rfl
theorem dX6_readWord_30 : decode cX6_readWord 30 = .ok (.aload_n 0, 1) := dw_42 wX6_readWord_c rfl
theorem dX6_readWord_31 : decode cX6_readWord 31 = .ok (.aload_n 1, 1) := dw_43 wX6_readWord_c rfl
theorem dX6_readWord_32 : decode cX6_readWord 32 = .ok (.iload_n 3, 1) := dw_29 wX6_readWord_c rfl
theorem dX6_readWord_33 : decode cX6_readWord 33 = .ok (.iload_n 2, 1) := dw_28 wX6_readWord_c rfl
theorem dX6_readWord_34 : decode cX6_readWord 34 = .ok (.invokevirtual 132, 3) := dw_182 wX6_readWord_c 0 132 rfl rfl
theorem dX6_readWord_37 : decode cX6_readWord 37 = .ok (.ifCond .eq 13, 3) := dw_153 wX6_readWord_c 0 13 rfl rfl rfl
theorem dX6_readWord_40 : decode cX6_readWord 40 = .ok (.aload_n 0, 1) := dw_42 wX6_readWord_c rfl
theorem dX6_readWord_41 : decode cX6_readWord 41 = .ok (.iload_n 2, 1) := dw_28 wX6_readWord_c rfl
theorem dX6_readWord_42 : decode cX6_readWord 42 = .ok (.putfield 19, 3) := dw_181 wX6_readWord_c 0 19 rfl rfl
theorem dX6_readWord_45 : decode cX6_readWord 45 = .ok (.iload_n 3, 1) := dw_29 wX6_readWord_c rfl
theorem dX6_readWord_46 : decode cX6_readWord 46 = .ok (.bipush 8, 2) := dw_16 wX6_readWord_c 8 rfl rfl rfl
theorem dX6_readWord_48 : decode cX6_readWord 48 = .ok (.idiv, 1) := dw_108 wX6_readWord_c rfl
theorem dX6_readWord_49 : decode cX6_readWord 49 = .ok (.ireturn, 1) := dw_172 wX6_readWord_c rfl
theorem dX6_readWord_50 : decode cX6_readWord 50 = .ok (.iinc 3 8, 3) := dw_132 wX6_readWord_c 3 8 rfl rfl rfl
theorem dX6_readWord_53 : decode cX6_readWord 53 = .ok (.goto (-42), 3) := dn_167 wX6_readWord_c 255 214 rfl (by decide)
theorem dX6_readWord_56 : decode cX6_readWord 56 = .ok (.iconst (-1), 1) := dw_2 wX6_readWord_c rfl
theorem dX6_readWord_57 : decode cX6_readWord 57 = .ok (.ireturn, 1) := dw_172 wX6_readWord_c rfl
def wNX6_isNextWord : Nat := 19917603359255129748734087377963345982767018986605589166144320393836639383762474
theorem wX6_isNextWord_c : hz_cd cX6_isNextWord wNX6_isNextWord 33 := ⟨by decide +kernel, by decide +kernel⟩
theorem dX6_isNextWord_0 : decode cX6_isNextWord 0 = .ok (.aload_n 0, 1) := dw_42 wX6_isNextWord_c rfl
theorem dX6_isNextWord_1 : decode cX6_isNextWord 1 = .ok (.invokevirtual 35, 3) := dw_182 wX6_isNextWord_c 0 35 rfl rfl
theorem dX6_isNextWord_4 : decode cX6_isNextWord 4 = .ok (.aload_n 0, 1) := dw_42 wX6_isNextWord_c rfl
theorem dX6_isNextWord_5 : decode cX6_isNextWord 5 = .ok (.invokevirtual 125, 3) := dw_182 wX6_isNextWord_c 0 125 rfl rfl
theorem dX6_isNextWord_8 : decode cX6_isNextWord 8 = .ok (.istore_n 2, 1) := dw_61 wX6_isNextWord_c rfl
theorem dX6_isNextWord_9 : decode cX6_isNextWord 9 = .ok (.iload_n 2, 1) := dw_28 wX6_isNextWord_c rfl
theorem dX6_isNextWord_10 : decode cX6_isNextWord 10 = .ok (.aload_n 0, 1) := dw_42 wX6_isNextWord_c rfl
theorem dX6_isNextWord_11 : decode cX6_isNextWord 11 = .ok (.getfield 19, 3) := dw_180 wX6_isNextWord_c 0 19 rfl rfl
theorem dX6_isNextWord_14 : decode cX6_isNextWord 14 = .ok (.if_icmp .le 17, 3) := dw_164 wX6_isNextWord_c 0 17 rfl rfl rfl
theorem dX6_isNextWord_17 : decode cX6_isNextWord 17 = .ok (.aload_n 0, 1) := dw_42 wX6_isNextWord_c rfl
theorem dX6_isNextWord_18 : decode cX6_isNextWord 18 = .ok (.aload_n 1, 1) := dw_43 wX6_isNextWord_c rfl
theorem dX6_isNextWord_19 : decode cX6_isNextWord 19 = .ok (.iconst 0, 1) := dw_3 wX6_isNextWord_c rfl
theorem dX6_isNextWord_20 : decode cX6_isNextWord 20 = .ok (.iload_n 2, 1) := dw_28 wX6_isNextWord_c rfl
theorem dX6_isNextWord_21 : decode cX6_isNextWord 21 = .ok (.invokevirtual 132, 3) := dw_182 wX6_isNextWord_c 0 132 rfl rfl
theorem dX6_isNextWord_24 : decode cX6_isNextWord 24 = .ok (.ifCond .eq 7, 3) := dw_153 wX6_isNextWord_c 0 7 rfl rfl rfl
theorem dX6_isNextWord_27 : decode cX6_isNextWord 27 = .ok (.iconst 1, 1) := dw_4 wX6_isNextWord_c rfl
theorem dX6_isNextWord_28 : decode cX6_isNextWord 28 = .ok (.goto 4, 3) := dw_167 wX6_isNextWord_c 0 4 rfl rfl rfl
theorem dX6_isNextWord_31 : decode cX6_isNextWord 31 = .ok (.iconst 0, 1) := dw_3 wX6_isNextWord_c rfl
theorem dX6_isNextWord_32 : decode cX6_isNextWord 32 = .ok (.ireturn, 1) := dw_172 wX6_isNextWord_c rfl
def wNX6_readNumber : Nat := 863379501045519658136252882771502243928346134868729101897855451948862241286903832044111030701238777716533726810418967523572807130263746824758699605896397621334664098337399819920910891462470912981107675804714
theorem wX6_readNumber_c : hz_cd cX6_readNumber wNX6_readNumber 86 := ⟨by decide +kernel, by decide +kernel⟩
theorem dX6_readNumber_0 : decode cX6_readNumber 0 = .ok (.aload_n 0, 1) := dw_42 wX6_readNumber_c rfl
theorem dX6_readNumber_1 : decode cX6_readNumber 1 = .ok (.getfield 19, 3) := dw_180 wX6_readNumber_c 0 19 rfl rfl
theorem dX6_readNumber_4 : decode cX6_readNumber 4 = .ok (.istore_n 1, 1) := dw_60 wX6_readNumber_c rfl
theorem dX6_readNumber_5 : decode cX6_readNumber 5 = .ok (.iconst 0, 1) := dw_3 wX6_readNumber_c rfl
theorem dX6_readNumber_6 : decode cX6_readNumber 6 = .ok (.istore_n 2, 1) := dw_61 wX6_readNumber_c rfl
theorem dX6_readNumber_7 : decode cX6_readNumber 7 = .ok (.aload_n 0, 1) := dw_42 wX6_readNumber_c rfl
theorem dX6_readNumber_8 : decode cX6_readNumber 8 = .ok (.getfield 19, 3) := dw_180 wX6_readNumber_c 0 19 rfl rfl
theorem dX6_readNumber_11 : decode cX6_readNumber 11 = .ok (.aload_n 0, 1) := dw_42 wX6_readNumber_c rfl
theorem dX6_readNumber_12 : decode cX6_readNumber 12 = .ok (.getfield 15, 3) := dw_180 wX6_readNumber_c 0 15 rfl rfl
theorem dX6_readNumber_15 : decode cX6_readNumber 15 = .ok (.if_icmp .ge 55, 3) := dw_162 wX6_readNumber_c 0 55 rfl rfl rfl
theorem dX6_readNumber_18 : decode cX6_readNumber 18 = .ok (.aload_n 0, 1) := dw_42 wX6_readNumber_c rfl
theorem dX6_readNumber_19 : decode cX6_readNumber 19 = .ok (.aload_n 0, 1) := dw_42 wX6_readNumber_c rfl
theorem dX6_readNumber_20 : decode cX6_readNumber 20 = .ok (.getfield 19, 3) := dw_180 wX6_readNumber_c 0 19 rfl rfl
theorem dX6_readNumber_23 : decode cX6_readNumber 23 = .ok (.invokevirtual 75, 3) := dw_182 wX6_readNumber_c 0 75 rfl rfl
theorem dX6_readNumber_26 : decode cX6_readNumber 26 = .ok (.ifCond .eq 44, 3) := dw_153 wX6_readNumber_c 0 44 rfl rfl rfl
theorem dX6_readNumber_29 : decode cX6_readNumber 29 = .ok (.aload_n 0, 1) := dw_42 wX6_readNumber_c rfl
theorem dX6_readNumber_30 : decode cX6_readNumber 30 = .ok (.getfield 19, 3) := dw_180 wX6_readNumber_c 0 19 rfl rfl
theorem dX6_readNumber_33 : decode cX6_readNumber 33 = .ok (.iload_n 1, 1) := dw_27 wX6_readNumber_c rfl
theorem dX6_readNumber_34 : decode cX6_readNumber 34 = .ok (.isub, 1) := dw_100 wX6_readNumber_c rfl
theorem dX6_readNumber_35 : decode cX6_readNumber 35 = .ok (.iconst 4, 1) := dw_7 wX6_readNumber_c rfl
theorem dX6_readNumber_36 : decode cX6_readNumber 36 = .ok (.if_icmp .ge 21, 3) := dw_162 wX6_readNumber_c 0 21 rfl rfl rfl
theorem dX6_readNumber_39 : decode cX6_readNumber 39 = .ok (.iload_n 2, 1) := dw_28 wX6_readNumber_c rfl
theorem dX6_readNumber_40 : decode cX6_readNumber 40 = .ok (.bipush 10, 2) := dw_16 wX6_readNumber_c 10 rfl rfl rfl
theorem dX6_readNumber_42 : decode cX6_readNumber 42 = .ok (.imul, 1) := dw_104 wX6_readNumber_c rfl
theorem dX6_readNumber_43 : decode cX6_readNumber 43 = .ok (.aload_n 0, 1) := dw_42 wX6_readNumber_c rfl
theorem dX6_readNumber_44 : decode cX6_readNumber 44 = .ok (.getfield 9, 3) := dw_180 wX6_readNumber_c 0 9 rfl rfl
theorem dX6_readNumber_47 : decode cX6_readNumber 47 = .ok (.aload_n 0, 1) := dw_42 wX6_readNumber_c rfl
theorem dX6_readNumber_48 : decode cX6_readNumber 48 = .ok (.getfield 19, 3) := dw_180 wX6_readNumber_c 0 19 rfl rfl
theorem dX6_readNumber_51 : decode cX6_readNumber 51 = .ok (.baload, 1) := dw_51 wX6_readNumber_c rfl
theorem dX6_readNumber_52 : decode cX6_readNumber 52 = .ok (.iadd, 1) := dw_96 wX6_readNumber_c rfl
theorem dX6_readNumber_53 : decode cX6_readNumber 53 = .ok (.bipush 48, 2) := dw_16 wX6_readNumber_c 48 rfl rfl rfl
theorem dX6_readNumber_55 : decode cX6_readNumber 55 = .ok (.isub, 1) := dw_100 wX6_readNumber_c rfl
theorem dX6_readNumber_56 : decode cX6_readNumber 56 = .ok (.istore_n 2, 1) := dw_61 wX6_readNumber_c rfl
theorem dX6_readNumber_57 : decode cX6_readNumber 57 = .ok (.aload_n 0, 1) := dw_42 wX6_readNumber_c rfl
theorem dX6_readNumber_58 : decode cX6_readNumber 58 = .ok (.dup, 1) := dw_89 wX6_readNumber_c rfl
theorem dX6_readNumber_59 : decode cX6_readNumber 59 = .ok (.getfield 19, 3) := dw_180 wX6_readNumber_c 0 19 rfl rfl
theorem dX6_readNumber_62 : decode cX6_readNumber 62 = .ok (.iconst 1, 1) := dw_4 wX6_readNumber_c rfl
theorem dX6_readNumber_63 : decode cX6_readNumber 63 = .ok (.iadd, 1) := dw_96 wX6_readNumber_c rfl
theorem dX6_readNumber_64 : decode cX6_readNumber 64 = .ok (.putfield 19, 3) := dw_181 wX6_readNumber_c 0 19 rfl rfl
theorem dX6_readNumber_67 : decode cX6_readNumber 67 = .ok (.goto (-60), 3) := dn_167 wX6_readNumber_c 255 196 rfl (by decide)
theorem dX6_readNumber_70 : decode cX6_readNumber 70 = .ok (.aload_n 0, 1) := dw_42 wX6_readNumber_c rfl
theorem dX6_readNumber_71 : decode cX6_readNumber 71 = .ok (.getfield 19, 3) := dw_180 wX6_readNumber_c 0 19 rfl rfl
theorem dX6_readNumber_74 : decode cX6_readNumber 74 = .ok (.iload_n 1, 1) := dw_27 wX6_readNumber_c rfl
theorem dX6_readNumber_75 : decode cX6_readNumber 75 = .ok (.isub, 1) := dw_100 wX6_readNumber_c rfl
theorem dX6_readNumber_76 : decode cX6_readNumber 76 = .ok (.iconst 4, 1) := dw_7 wX6_readNumber_c rfl
theorem dX6_readNumber_77 : decode cX6_readNumber 77 = .ok (.if_icmp .le 7, 3) := dw_164 wX6_readNumber_c 0 7 rfl rfl rfl
theorem dX6_readNumber_80 : decode cX6_readNumber 80 = .ok (.iconst (-1), 1) := dw_2 wX6_readNumber_c rfl
theorem dX6_readNumber_81 : decode cX6_readNumber 81 = .ok (.goto 4, 3) := dw_167 wX6_readNumber_c 0 4 rfl rfl rfl
theorem dX6_readNumber_84 : decode cX6_readNumber 84 = .ok (.iload_n 2, 1) := dw_28 wX6_readNumber_c rfl
theorem dX6_readNumber_85 : decode cX6_readNumber 85 = .ok (.ireturn, 1) := dw_172 wX6_readNumber_c rfl
def wNX6_readSign : Nat := 649523056132126903832673449291719476574159675129502529069893700308536663965449075463144727085700148935245965022617387831025419160986415946658221099935703834682893413692970
theorem wX6_readSign_c : hz_cd cX6_readSign wNX6_readSign 71 := ⟨by decide +kernel, by decide +kernel⟩
theorem dX6_readSign_0 : decode cX6_readSign 0 = .ok (.aload_n 0, 1) := dw_42 wX6_readSign_c rfl
theorem dX6_readSign_1 : decode cX6_readSign 1 = .ok (.invokevirtual 35, 3) := dw_182 wX6_readSign_c 0 35 rfl rfl
theorem dX6_readSign_4 : decode cX6_readSign 4 = .ok (.aload_n 0, 1) := dw_42 wX6_readSign_c rfl
theorem dX6_readSign_5 : decode cX6_readSign 5 = .ok (.bipush 60, 2) := dw_16 wX6_readSign_c 60 rfl rfl rfl
theorem dX6_readSign_7 : decode cX6_readSign 7 = .ok (.invokevirtual 109, 3) := dw_182 wX6_readSign_c 0 109 rfl rfl
theorem dX6_readSign_10 : decode cX6_readSign 10 = .ok (.ifCond .eq 7, 3) := dw_153 wX6_readSign_c 0 7 rfl rfl rfl
theorem dX6_readSign_13 : decode cX6_readSign 13 = .ok (.iconst 1, 1) := dw_4 wX6_readSign_c rfl
theorem dX6_readSign_14 : decode cX6_readSign 14 = .ok (.goto 17, 3) := dw_167 wX6_readSign_c 0 17 rfl rfl rfl
theorem dX6_readSign_17 : decode cX6_readSign 17 = .ok (.aload_n 0, 1) := dw_42 wX6_readSign_c rfl
theorem dX6_readSign_18 : decode cX6_readSign 18 = .ok (.bipush 62, 2) := dw_16 wX6_readSign_c 62 rfl rfl rfl
theorem dX6_readSign_20 : decode cX6_readSign 20 = .ok (.invokevirtual 109, 3) := dw_182 wX6_readSign_c 0 109 rfl rfl
theorem dX6_readSign_23 : decode cX6_readSign 23 = .ok (.ifCond .eq 7, 3) := dw_153 wX6_readSign_c 0 7 rfl rfl rfl
theorem dX6_readSign_26 : decode cX6_readSign 26 = .ok (.iconst 4, 1) := dw_7 wX6_readSign_c rfl
theorem dX6_readSign_27 : decode cX6_readSign 27 = .ok (.goto 4, 3) := dw_167 wX6_readSign_c 0 4 rfl rfl rfl
theorem dX6_readSign_30 : decode cX6_readSign 30 = .ok (.iconst 0, 1) := dw_3 wX6_readSign_c rfl
theorem dX6_readSign_31 : decode cX6_readSign 31 = .ok (.istore_n 1, 1) := dw_60 wX6_readSign_c rfl
theorem dX6_readSign_32 : decode cX6_readSign 32 = .ok (.iload_n 1, 1) := dw_27 wX6_readSign_c rfl
theorem dX6_readSign_33 : decode cX6_readSign 33 = .ok (.ifCond .eq 13, 3) := dw_153 wX6_readSign_c 0 13 rfl rfl rfl
theorem dX6_readSign_36 : decode cX6_readSign 36 = .ok (.aload_n 0, 1) := dw_42 wX6_readSign_c rfl
theorem dX6_readSign_37 : decode cX6_readSign 37 = .ok (.dup, 1) := dw_89 wX6_readSign_c rfl
theorem dX6_readSign_38 : decode cX6_readSign 38 = .ok (.getfield 19, 3) := dw_180 wX6_readSign_c 0 19 rfl rfl
theorem dX6_readSign_41 : decode cX6_readSign 41 = .ok (.iconst 1, 1) := dw_4 wX6_readSign_c rfl
theorem dX6_readSign_42 : decode cX6_readSign 42 = .ok (.iadd, 1) := dw_96 wX6_readSign_c rfl
theorem dX6_readSign_43 : decode cX6_readSign 43 = .ok (.putfield 19, 3) := dw_181 wX6_readSign_c 0 19 rfl rfl
theorem dX6_readSign_46 : decode cX6_readSign 46 = .ok (.aload_n 0, 1) := dw_42 wX6_readSign_c rfl
theorem dX6_readSign_47 : decode cX6_readSign 47 = .ok (.bipush 61, 2) := dw_16 wX6_readSign_c 61 rfl rfl rfl
theorem dX6_readSign_49 : decode cX6_readSign 49 = .ok (.invokevirtual 109, 3) := dw_182 wX6_readSign_c 0 109 rfl rfl
theorem dX6_readSign_52 : decode cX6_readSign 52 = .ok (.ifCond .eq 17, 3) := dw_153 wX6_readSign_c 0 17 rfl rfl rfl
theorem dX6_readSign_55 : decode cX6_readSign 55 = .ok (.aload_n 0, 1) := dw_42 wX6_readSign_c rfl
theorem dX6_readSign_56 : decode cX6_readSign 56 = .ok (.dup, 1) := dw_89 wX6_readSign_c rfl
theorem dX6_readSign_57 : decode cX6_readSign 57 = .ok (.getfield 19, 3) := dw_180 wX6_readSign_c 0 19 rfl rfl
theorem dX6_readSign_60 : decode cX6_readSign 60 = .ok (.iconst 1, 1) := dw_4 wX6_readSign_c rfl
theorem dX6_readSign_61 : decode cX6_readSign 61 = .ok (.iadd, 1) := dw_96 wX6_readSign_c rfl
theorem dX6_readSign_62 : decode cX6_readSign 62 = .ok (.putfield 19, 3) := dw_181 wX6_readSign_c 0 19 rfl rfl
theorem dX6_readSign_65 : decode cX6_readSign 65 = .ok (.iload_n 1, 1) := dw_27 wX6_readSign_c rfl
theorem dX6_readSign_66 : decode cX6_readSign 66 = .ok (.iconst 2, 1) := dw_5 wX6_readSign_c rfl
theorem dX6_readSign_67 : decode cX6_readSign 67 = .ok (.ior, 1) := dw_128 wX6_readSign_c rfl
theorem dX6_readSign_68 : decode cX6_readSign 68 = .ok (.istore_n 1, 1) := dw_60 wX6_readSign_c rfl
theorem dX6_readSign_69 : decode cX6_readSign 69 = .ok (.iload_n 1, 1) := dw_27 wX6_readSign_c rfl
theorem dX6_readSign_70 : decode cX6_readSign 70 = .ok (.ireturn, 1) := dw_172 wX6_readSign_c rfl
def wNX6_readTold : Nat := 9905777909565387374572572663852140368255345972528597652724537054856406951367405334527917054752044583892661398998350977893603823491700438892816148226648120531844380202
theorem wX6_readTold_c : hz_cd cX6_readTold wNX6_readTold 69 := ⟨by decide +kernel, by decide +kernel⟩
theorem dX6_readTold_0 : decode cX6_readTold 0 = .ok (.aload_n 0, 1) := dw_42 wX6_readTold_c rfl
theorem dX6_readTold_1 : decode cX6_readTold 1 = .ok (.invokevirtual 35, 3) := dw_182 wX6_readTold_c 0 35 rfl rfl
theorem dX6_readTold_4 : decode cX6_readTold 4 = .ok (.aload_n 0, 1) := dw_42 wX6_readTold_c rfl
theorem dX6_readTold_5 : decode cX6_readTold 5 = .ok (.getfield 19, 3) := dw_180 wX6_readTold_c 0 19 rfl rfl
theorem dX6_readTold_8 : decode cX6_readTold 8 = .ok (.istore_n 2, 1) := dw_61 wX6_readTold_c rfl
theorem dX6_readTold_9 : decode cX6_readTold 9 = .ok (.aload_n 0, 1) := dw_42 wX6_readTold_c rfl
theorem dX6_readTold_10 : decode cX6_readTold 10 = .ok (.aload_n 0, 1) := dw_42 wX6_readTold_c rfl
theorem dX6_readTold_11 : decode cX6_readTold 11 = .ok (.getfield 19, 3) := dw_180 wX6_readTold_c 0 19 rfl rfl
theorem dX6_readTold_14 : decode cX6_readTold 14 = .ok (.invokevirtual 75, 3) := dw_182 wX6_readTold_c 0 75 rfl rfl
theorem dX6_readTold_17 : decode cX6_readTold 17 = .ok (.ifCond .ne 10, 3) := dw_154 wX6_readTold_c 0 10 rfl rfl rfl
theorem dX6_readTold_20 : decode cX6_readTold 20 = .ok (.aload_n 0, 1) := dw_42 wX6_readTold_c rfl
theorem dX6_readTold_21 : decode cX6_readTold 21 = .ok (.iload_n 2, 1) := dw_28 wX6_readTold_c rfl
theorem dX6_readTold_22 : decode cX6_readTold 22 = .ok (.iconst 0, 1) := dw_3 wX6_readTold_c rfl
theorem dX6_readTold_23 : decode cX6_readTold 23 = .ok (.invokevirtual 45, 3) := dw_182 wX6_readTold_c 0 45 rfl rfl
theorem dX6_readTold_26 : decode cX6_readTold 26 = .ok (.ireturn, 1) := dw_172 wX6_readTold_c rfl
theorem dX6_readTold_27 : decode cX6_readTold 27 = .ok (.aload_n 0, 1) := dw_42 wX6_readTold_c rfl
theorem dX6_readTold_28 : decode cX6_readTold 28 = .ok (.invokevirtual 78, 3) := dw_182 wX6_readTold_c 0 78 rfl rfl
theorem dX6_readTold_31 : decode cX6_readTold 31 = .ok (.istore_n 3, 1) := dw_62 wX6_readTold_c rfl
theorem dX6_readTold_32 : decode cX6_readTold 32 = .ok (.iload_n 3, 1) := dw_29 wX6_readTold_c rfl
theorem dX6_readTold_33 : decode cX6_readTold 33 = .ok (.getstatic 82, 3) := dw_178 wX6_readTold_c 0 82 rfl rfl
theorem dX6_readTold_36 : decode cX6_readTold 36 = .ok (.iload_n 1, 1) := dw_27 wX6_readTold_c rfl
theorem dX6_readTold_37 : decode cX6_readTold 37 = .ok (.iaload, 1) := dw_46 wX6_readTold_c rfl
theorem dX6_readTold_38 : decode cX6_readTold 38 = .ok (.if_icmp .lt 12, 3) := dw_161 wX6_readTold_c 0 12 rfl rfl rfl
theorem dX6_readTold_41 : decode cX6_readTold 41 = .ok (.iload_n 3, 1) := dw_29 wX6_readTold_c rfl
theorem dX6_readTold_42 : decode cX6_readTold 42 = .ok (.getstatic 86, 3) := dw_178 wX6_readTold_c 0 86 rfl rfl
theorem dX6_readTold_45 : decode cX6_readTold 45 = .ok (.iload_n 1, 1) := dw_27 wX6_readTold_c rfl
theorem dX6_readTold_46 : decode cX6_readTold 46 = .ok (.iaload, 1) := dw_46 wX6_readTold_c rfl
theorem dX6_readTold_47 : decode cX6_readTold 47 = .ok (.if_icmp .le 10, 3) := dw_164 wX6_readTold_c 0 10 rfl rfl rfl
theorem dX6_readTold_50 : decode cX6_readTold 50 = .ok (.aload_n 0, 1) := dw_42 wX6_readTold_c rfl
theorem dX6_readTold_51 : decode cX6_readTold 51 = .ok (.iload_n 2, 1) := dw_28 wX6_readTold_c rfl
theorem dX6_readTold_52 : decode cX6_readTold 52 = .ok (.iconst 1, 1) := dw_4 wX6_readTold_c rfl
theorem dX6_readTold_53 : decode cX6_readTold 53 = .ok (.invokevirtual 45, 3) := dw_182 wX6_readTold_c 0 45 rfl rfl
theorem dX6_readTold_56 : decode cX6_readTold 56 = .ok (.ireturn, 1) := dw_172 wX6_readTold_c rfl
theorem dX6_readTold_57 : decode cX6_readTold 57 = .ok (.aload_n 0, 1) := dw_42 wX6_readTold_c rfl
theorem dX6_readTold_58 : decode cX6_readTold 58 = .ok (.getfield 31, 3) := dw_180 wX6_readTold_c 0 31 rfl rfl
theorem dX6_readTold_61 : decode cX6_readTold 61 = .ok (.getfield 89, 3) := dw_180 wX6_readTold_c 0 89 rfl rfl
theorem dX6_readTold_64 : decode cX6_readTold 64 = .ok (.iload_n 1, 1) := dw_27 wX6_readTold_c rfl
theorem dX6_readTold_65 : decode cX6_readTold 65 = .ok (.iload_n 3, 1) := dw_29 wX6_readTold_c rfl
theorem dX6_readTold_66 : decode cX6_readTold 66 = .ok (.iastore, 1) := dw_79 wX6_readTold_c rfl
theorem dX6_readTold_67 : decode cX6_readTold 67 = .ok (.iconst 1, 1) := dw_4 wX6_readTold_c rfl
theorem dX6_readTold_68 : decode cX6_readTold 68 = .ok (.ireturn, 1) := dw_172 wX6_readTold_c rfl
def wNX6_readCost : Nat := 488378213324702958336540508466092861467093156467737801975773603480435909869629926179987571736587599385459991114530004360293614115403306
theorem wX6_readCost_c : hz_cd cX6_readCost wNX6_readCost 56 := ⟨by decide +kernel, by decide +kernel⟩
theorem dX6_readCost_0 : decode cX6_readCost 0 = .ok (.aload_n 0, 1) := dw_42 wX6_readCost_c rfl
theorem dX6_readCost_1 : decode cX6_readCost 1 = .ok (.invokevirtual 35, 3) := dw_182 wX6_readCost_c 0 35 rfl rfl
theorem dX6_readCost_4 : decode cX6_readCost 4 = .ok (.aload_n 0, 1) := dw_42 wX6_readCost_c rfl
theorem dX6_readCost_5 : decode cX6_readCost 5 = .ok (.getfield 19, 3) := dw_180 wX6_readCost_c 0 19 rfl rfl
theorem dX6_readCost_8 : decode cX6_readCost 8 = .ok (.istore_n 1, 1) := dw_60 wX6_readCost_c rfl
theorem dX6_readCost_9 : decode cX6_readCost 9 = .ok (.aload_n 0, 1) := dw_42 wX6_readCost_c rfl
theorem dX6_readCost_10 : decode cX6_readCost 10 = .ok (.ldc 73, 2) := dw_18 wX6_readCost_c 73 rfl
theorem dX6_readCost_12 : decode cX6_readCost 12 = .ok (.invokevirtual 51, 3) := dw_182 wX6_readCost_c 0 51 rfl rfl
theorem dX6_readCost_15 : decode cX6_readCost 15 = .ok (.istore_n 2, 1) := dw_61 wX6_readCost_c rfl
theorem dX6_readCost_16 : decode cX6_readCost 16 = .ok (.iload_n 2, 1) := dw_28 wX6_readCost_c rfl
theorem dX6_readCost_17 : decode cX6_readCost 17 = .ok (.ifCond .ge 10, 3) := dw_156 wX6_readCost_c 0 10 rfl rfl rfl
theorem dX6_readCost_20 : decode cX6_readCost 20 = .ok (.aload_n 0, 1) := dw_42 wX6_readCost_c rfl
theorem dX6_readCost_21 : decode cX6_readCost 21 = .ok (.iload_n 1, 1) := dw_27 wX6_readCost_c rfl
theorem dX6_readCost_22 : decode cX6_readCost 22 = .ok (.iconst 0, 1) := dw_3 wX6_readCost_c rfl
theorem dX6_readCost_23 : decode cX6_readCost 23 = .ok (.invokevirtual 45, 3) := dw_182 wX6_readCost_c 0 45 rfl rfl
theorem dX6_readCost_26 : decode cX6_readCost 26 = .ok (.ireturn, 1) := dw_172 wX6_readCost_c rfl
theorem dX6_readCost_27 : decode cX6_readCost 27 = .ok (.aload_n 0, 1) := dw_42 wX6_readCost_c rfl
theorem dX6_readCost_28 : decode cX6_readCost 28 = .ok (.bipush 10, 2) := dw_16 wX6_readCost_c 10 rfl rfl rfl
theorem dX6_readCost_30 : decode cX6_readCost 30 = .ok (.iload_n 2, 1) := dw_28 wX6_readCost_c rfl
theorem dX6_readCost_31 : decode cX6_readCost 31 = .ok (.iadd, 1) := dw_96 wX6_readCost_c rfl
theorem dX6_readCost_32 : decode cX6_readCost 32 = .ok (.iload_n 1, 1) := dw_27 wX6_readCost_c rfl
theorem dX6_readCost_33 : decode cX6_readCost 33 = .ok (.invokevirtual 63, 3) := dw_182 wX6_readCost_c 0 63 rfl rfl
theorem dX6_readCost_36 : decode cX6_readCost 36 = .ok (.ifCond .eq 18, 3) := dw_153 wX6_readCost_c 0 18 rfl rfl rfl
theorem dX6_readCost_39 : decode cX6_readCost 39 = .ok (.aload_n 0, 1) := dw_42 wX6_readCost_c rfl
theorem dX6_readCost_40 : decode cX6_readCost 40 = .ok (.bipush 10, 2) := dw_16 wX6_readCost_c 10 rfl rfl rfl
theorem dX6_readCost_42 : decode cX6_readCost 42 = .ok (.iload_n 2, 1) := dw_28 wX6_readCost_c rfl
theorem dX6_readCost_43 : decode cX6_readCost 43 = .ok (.iadd, 1) := dw_96 wX6_readCost_c rfl
theorem dX6_readCost_44 : decode cX6_readCost 44 = .ok (.invokevirtual 70, 3) := dw_182 wX6_readCost_c 0 70 rfl rfl
theorem dX6_readCost_47 : decode cX6_readCost 47 = .ok (.ifCond .eq 7, 3) := dw_153 wX6_readCost_c 0 7 rfl rfl rfl
theorem dX6_readCost_50 : decode cX6_readCost 50 = .ok (.iconst 1, 1) := dw_4 wX6_readCost_c rfl
theorem dX6_readCost_51 : decode cX6_readCost 51 = .ok (.goto 4, 3) := dw_167 wX6_readCost_c 0 4 rfl rfl rfl
theorem dX6_readCost_54 : decode cX6_readCost 54 = .ok (.iconst 0, 1) := dw_3 wX6_readCost_c rfl
theorem dX6_readCost_55 : decode cX6_readCost 55 = .ok (.ireturn, 1) := dw_172 wX6_readCost_c rfl
end
section
def wNX6_readTerm : Nat := 213425403719781100055196544882286032058658247907938099781742783601855298138122085045488385252777769628700482326364959752777450787625977756088164618594421433736354753600695602704190151199287014304357341502148401972285814643625066873285847828402767418234640106884887239747136922628605163741140980048332549072006147947561313303131563090858048004056238061466547546319429708991869007402
theorem wX6_readTerm_c : hz_cd cX6_readTerm wNX6_readTerm 158 := ⟨by decide +kernel, by decide +kernel⟩
theorem dX6_readTerm_0 : decode cX6_readTerm 0 = .ok (.aload_n 0, 1) := dw_42 wX6_readTerm_c rfl
theorem dX6_readTerm_1 : decode cX6_readTerm 1 = .ok (.invokevirtual 35, 3) := dw_182 wX6_readTerm_c 0 35 rfl rfl
theorem dX6_readTerm_4 : decode cX6_readTerm 4 = .ok (.aload_n 0, 1) := dw_42 wX6_readTerm_c rfl
theorem dX6_readTerm_5 : decode cX6_readTerm 5 = .ok (.getfield 19, 3) := dw_180 wX6_readTerm_c 0 19 rfl rfl
theorem dX6_readTerm_8 : decode cX6_readTerm 8 = .ok (.istore_n 1, 1) := dw_60 wX6_readTerm_c rfl
theorem dX6_readTerm_9 : decode cX6_readTerm 9 = .ok (.aload_n 0, 1) := dw_42 wX6_readTerm_c rfl
theorem dX6_readTerm_10 : decode cX6_readTerm 10 = .ok (.ldc 116, 2) := dw_18 wX6_readTerm_c 116 rfl
theorem dX6_readTerm_12 : decode cX6_readTerm 12 = .ok (.invokevirtual 51, 3) := dw_182 wX6_readTerm_c 0 51 rfl rfl
theorem dX6_readTerm_15 : decode cX6_readTerm 15 = .ok (.istore_n 2, 1) := dw_61 wX6_readTerm_c rfl
theorem dX6_readTerm_16 : decode cX6_readTerm 16 = .ok (.iload_n 2, 1) := dw_28 wX6_readTerm_c rfl
theorem dX6_readTerm_17 : decode cX6_readTerm 17 = .ok (.ifCond .ge 10, 3) := dw_156 wX6_readTerm_c 0 10 rfl rfl rfl
theorem dX6_readTerm_20 : decode cX6_readTerm 20 = .ok (.aload_n 0, 1) := dw_42 wX6_readTerm_c rfl
theorem dX6_readTerm_21 : decode cX6_readTerm 21 = .ok (.iload_n 1, 1) := dw_27 wX6_readTerm_c rfl
theorem dX6_readTerm_22 : decode cX6_readTerm 22 = .ok (.iconst 0, 1) := dw_3 wX6_readTerm_c rfl
theorem dX6_readTerm_23 : decode cX6_readTerm 23 = .ok (.invokevirtual 45, 3) := dw_182 wX6_readTerm_c 0 45 rfl rfl
theorem dX6_readTerm_26 : decode cX6_readTerm 26 = .ok (.ireturn, 1) := dw_172 wX6_readTerm_c rfl
theorem dX6_readTerm_27 : decode cX6_readTerm 27 = .ok (.aload_n 0, 1) := dw_42 wX6_readTerm_c rfl
theorem dX6_readTerm_28 : decode cX6_readTerm 28 = .ok (.getfield 28, 3) := dw_180 wX6_readTerm_c 0 28 rfl rfl
theorem dX6_readTerm_31 : decode cX6_readTerm 31 = .ok (.bipush 20, 2) := dw_16 wX6_readTerm_c 20 rfl rfl rfl
theorem dX6_readTerm_33 : decode cX6_readTerm 33 = .ok (.if_icmp .lt 10, 3) := dw_161 wX6_readTerm_c 0 10 rfl rfl rfl
theorem dX6_readTerm_36 : decode cX6_readTerm 36 = .ok (.aload_n 0, 1) := dw_42 wX6_readTerm_c rfl
theorem dX6_readTerm_37 : decode cX6_readTerm 37 = .ok (.iload_n 1, 1) := dw_27 wX6_readTerm_c rfl
theorem dX6_readTerm_38 : decode cX6_readTerm 38 = .ok (.iconst 4, 1) := dw_7 wX6_readTerm_c rfl
theorem dX6_readTerm_39 : decode cX6_readTerm 39 = .ok (.invokevirtual 45, 3) := dw_182 wX6_readTerm_c 0 45 rfl rfl
theorem dX6_readTerm_42 : decode cX6_readTerm 42 = .ok (.ireturn, 1) := dw_172 wX6_readTerm_c rfl
theorem dX6_readTerm_43 : decode cX6_readTerm 43 = .ok (.aload_n 0, 1) := dw_42 wX6_readTerm_c rfl
theorem dX6_readTerm_44 : decode cX6_readTerm 44 = .ok (.dup, 1) := dw_89 wX6_readTerm_c rfl
theorem dX6_readTerm_45 : decode cX6_readTerm 45 = .ok (.getfield 28, 3) := dw_180 wX6_readTerm_c 0 28 rfl rfl
theorem dX6_readTerm_48 : decode cX6_readTerm 48 = .ok (.iconst 1, 1) := dw_4 wX6_readTerm_c rfl
theorem dX6_readTerm_49 : decode cX6_readTerm 49 = .ok (.iadd, 1) := dw_96 wX6_readTerm_c rfl
theorem dX6_readTerm_50 : decode cX6_readTerm 50 = .ok (.putfield 28, 3) := dw_181 wX6_readTerm_c 0 28 rfl rfl
theorem dX6_readTerm_53 : decode cX6_readTerm 53 = .ok (.aload_n 0, 1) := dw_42 wX6_readTerm_c rfl
theorem dX6_readTerm_54 : decode cX6_readTerm 54 = .ok (.invokevirtual 118, 3) := dw_182 wX6_readTerm_c 0 118 rfl rfl
theorem dX6_readTerm_57 : decode cX6_readTerm 57 = .ok (.istore_n 3, 1) := dw_62 wX6_readTerm_c rfl
theorem dX6_readTerm_58 : decode cX6_readTerm 58 = .ok (.iload_n 3, 1) := dw_29 wX6_readTerm_c rfl
theorem dX6_readTerm_59 : decode cX6_readTerm 59 = .ok (.ifCond .ne 13, 3) := dw_154 wX6_readTerm_c 0 13 rfl rfl rfl
theorem dX6_readTerm_62 : decode cX6_readTerm 62 = .ok (.aload_n 0, 1) := dw_42 wX6_readTerm_c rfl
theorem dX6_readTerm_63 : decode cX6_readTerm 63 = .ok (.aload_n 0, 1) := dw_42 wX6_readTerm_c rfl
theorem dX6_readTerm_64 : decode cX6_readTerm 64 = .ok (.getfield 19, 3) := dw_180 wX6_readTerm_c 0 19 rfl rfl
theorem dX6_readTerm_67 : decode cX6_readTerm 67 = .ok (.iconst 0, 1) := dw_3 wX6_readTerm_c rfl
theorem dX6_readTerm_68 : decode cX6_readTerm 68 = .ok (.invokevirtual 45, 3) := dw_182 wX6_readTerm_c 0 45 rfl rfl
theorem dX6_readTerm_71 : decode cX6_readTerm 71 = .ok (.ireturn, 1) := dw_172 wX6_readTerm_c rfl
theorem dX6_readTerm_72 : decode cX6_readTerm 72 = .ok (.aload_n 0, 1) := dw_42 wX6_readTerm_c rfl
theorem dX6_readTerm_73 : decode cX6_readTerm 73 = .ok (.invokevirtual 35, 3) := dw_182 wX6_readTerm_c 0 35 rfl rfl
theorem dX6_readTerm_76 : decode cX6_readTerm 76 = .ok (.aload_n 0, 1) := dw_42 wX6_readTerm_c rfl
theorem dX6_readTerm_77 : decode cX6_readTerm 77 = .ok (.getfield 19, 3) := dw_180 wX6_readTerm_c 0 19 rfl rfl
theorem dX6_readTerm_80 : decode cX6_readTerm 80 = .ok (.istore_n 1, 1) := dw_60 wX6_readTerm_c rfl
theorem dX6_readTerm_81 : decode cX6_readTerm 81 = .ok (.aload_n 0, 1) := dw_42 wX6_readTerm_c rfl
theorem dX6_readTerm_82 : decode cX6_readTerm 82 = .ok (.aload_n 0, 1) := dw_42 wX6_readTerm_c rfl
theorem dX6_readTerm_83 : decode cX6_readTerm 83 = .ok (.getfield 19, 3) := dw_180 wX6_readTerm_c 0 19 rfl rfl
theorem dX6_readTerm_86 : decode cX6_readTerm 86 = .ok (.invokevirtual 75, 3) := dw_182 wX6_readTerm_c 0 75 rfl rfl
theorem dX6_readTerm_89 : decode cX6_readTerm 89 = .ok (.ifCond .ne 7, 3) := dw_154 wX6_readTerm_c 0 7 rfl rfl rfl
theorem dX6_readTerm_92 : decode cX6_readTerm 92 = .ok (.iconst 1, 1) := dw_4 wX6_readTerm_c rfl
theorem dX6_readTerm_93 : decode cX6_readTerm 93 = .ok (.goto 4, 3) := dw_167 wX6_readTerm_c 0 4 rfl rfl rfl
theorem dX6_readTerm_96 : decode cX6_readTerm 96 = .ok (.iconst 0, 1) := dw_3 wX6_readTerm_c rfl
theorem dX6_readTerm_97 : decode cX6_readTerm 97 = .ok (.istore 4, 2) := dw_54 wX6_readTerm_c 4 rfl
theorem dX6_readTerm_99 : decode cX6_readTerm 99 = .ok (.iload 4, 2) := dw_21 wX6_readTerm_c 4 rfl
theorem dX6_readTerm_101 : decode cX6_readTerm 101 = .ok (.ifCond .eq 12, 3) := dw_153 wX6_readTerm_c 0 12 rfl rfl rfl
theorem dX6_readTerm_104 : decode cX6_readTerm 104 = .ok (.aload_n 0, 1) := dw_42 wX6_readTerm_c rfl
theorem dX6_readTerm_105 : decode cX6_readTerm 105 = .ok (.ldc 116, 2) := dw_18 wX6_readTerm_c 116 rfl
theorem dX6_readTerm_107 : decode cX6_readTerm 107 = .ok (.invokevirtual 51, 3) := dw_182 wX6_readTerm_c 0 51 rfl rfl
theorem dX6_readTerm_110 : decode cX6_readTerm 110 = .ok (.goto 7, 3) := dw_167 wX6_readTerm_c 0 7 rfl rfl rfl
theorem dX6_readTerm_113 : decode cX6_readTerm 113 = .ok (.aload_n 0, 1) := dw_42 wX6_readTerm_c rfl
theorem dX6_readTerm_114 : decode cX6_readTerm 114 = .ok (.invokevirtual 78, 3) := dw_182 wX6_readTerm_c 0 78 rfl rfl
theorem dX6_readTerm_117 : decode cX6_readTerm 117 = .ok (.istore 5, 2) := dw_54 wX6_readTerm_c 5 rfl
theorem dX6_readTerm_119 : decode cX6_readTerm 119 = .ok (.iload 5, 2) := dw_21 wX6_readTerm_c 5 rfl
theorem dX6_readTerm_121 : decode cX6_readTerm 121 = .ok (.ifCond .ge 19, 3) := dw_156 wX6_readTerm_c 0 19 rfl rfl rfl
theorem dX6_readTerm_124 : decode cX6_readTerm 124 = .ok (.aload_n 0, 1) := dw_42 wX6_readTerm_c rfl
theorem dX6_readTerm_125 : decode cX6_readTerm 125 = .ok (.iload_n 1, 1) := dw_27 wX6_readTerm_c rfl
theorem dX6_readTerm_126 : decode cX6_readTerm 126 = .ok (.iload 4, 2) := dw_21 wX6_readTerm_c 4 rfl
theorem dX6_readTerm_128 : decode cX6_readTerm 128 = .ok (.ifCond .eq 7, 3) := dw_153 wX6_readTerm_c 0 7 rfl rfl rfl
theorem dX6_readTerm_131 : decode cX6_readTerm 131 = .ok (.iconst 0, 1) := dw_3 wX6_readTerm_c rfl
theorem dX6_readTerm_132 : decode cX6_readTerm 132 = .ok (.goto 4, 3) := dw_167 wX6_readTerm_c 0 4 rfl rfl rfl
theorem dX6_readTerm_135 : decode cX6_readTerm 135 = .ok (.iconst 1, 1) := dw_4 wX6_readTerm_c rfl
theorem dX6_readTerm_136 : decode cX6_readTerm 136 = .ok (.invokevirtual 45, 3) := dw_182 wX6_readTerm_c 0 45 rfl rfl
theorem dX6_readTerm_139 : decode cX6_readTerm 139 = .ok (.ireturn, 1) := dw_172 wX6_readTerm_c rfl
theorem dX6_readTerm_140 : decode cX6_readTerm 140 = .ok (.aload_n 0, 1) := dw_42 wX6_readTerm_c rfl
theorem dX6_readTerm_141 : decode cX6_readTerm 141 = .ok (.getfield 31, 3) := dw_180 wX6_readTerm_c 0 31 rfl rfl
theorem dX6_readTerm_144 : decode cX6_readTerm 144 = .ok (.iload_n 2, 1) := dw_28 wX6_readTerm_c rfl
theorem dX6_readTerm_145 : decode cX6_readTerm 145 = .ok (.iload_n 3, 1) := dw_29 wX6_readTerm_c rfl
theorem dX6_readTerm_146 : decode cX6_readTerm 146 = .ok (.iload 4, 2) := dw_21 wX6_readTerm_c 4 rfl
theorem dX6_readTerm_148 : decode cX6_readTerm 148 = .ok (.iload 5, 2) := dw_21 wX6_readTerm_c 5 rfl
theorem dX6_readTerm_150 : decode cX6_readTerm 150 = .ok (.invokestatic 121, 3) := dw_184 wX6_readTerm_c 0 121 rfl rfl
theorem dX6_readTerm_153 : decode cX6_readTerm 153 = .ok (.invokevirtual 95, 3) := dw_182 wX6_readTerm_c 0 95 rfl rfl
theorem dX6_readTerm_156 : decode cX6_readTerm 156 = .ok (.iconst 1, 1) := dw_4 wX6_readTerm_c rfl
theorem dX6_readTerm_157 : decode cX6_readTerm 157 = .ok (.ireturn, 1) := dw_172 wX6_readTerm_c rfl
def wNX6_readOne : Nat := 8704102198116306194204756392806366405880104796024798474346443869031010114534190665068935251902548257161231180962834947920090427530089052440901374076326133141474087787004120754731352402214501342227359134907818166087557665355165021471656922280769928032942891896457756183818505396550790342124034767782079335377372143135444636202
theorem wX6_readOne_c : hz_cd cX6_readOne wNX6_readOne 135 := ⟨by decide +kernel, by decide +kernel⟩
theorem dX6_readOne_0 : decode cX6_readOne 0 = .ok (.aload_n 0, 1) := dw_42 wX6_readOne_c rfl
theorem dX6_readOne_1 : decode cX6_readOne 1 = .ok (.ldc 107, 2) := dw_18 wX6_readOne_c 107 rfl
theorem dX6_readOne_3 : decode cX6_readOne 3 = .ok (.invokevirtual 101, 3) := dw_182 wX6_readOne_c 0 101 rfl rfl
theorem dX6_readOne_6 : decode cX6_readOne 6 = .ok (.istore_n 2, 1) := dw_61 wX6_readOne_c rfl
theorem dX6_readOne_7 : decode cX6_readOne 7 = .ok (.iload_n 2, 1) := dw_28 wX6_readOne_c rfl
theorem dX6_readOne_8 : decode cX6_readOne 8 = .ok (.ifCond .ne 17, 3) := dw_154 wX6_readOne_c 0 17 rfl rfl rfl
theorem dX6_readOne_11 : decode cX6_readOne 11 = .ok (.aload_n 0, 1) := dw_42 wX6_readOne_c rfl
theorem dX6_readOne_12 : decode cX6_readOne 12 = .ok (.bipush 40, 2) := dw_16 wX6_readOne_c 40 rfl rfl rfl
theorem dX6_readOne_14 : decode cX6_readOne 14 = .ok (.invokevirtual 109, 3) := dw_182 wX6_readOne_c 0 109 rfl rfl
theorem dX6_readOne_17 : decode cX6_readOne 17 = .ok (.ifCond .ne 8, 3) := dw_154 wX6_readOne_c 0 8 rfl rfl rfl
theorem dX6_readOne_20 : decode cX6_readOne 20 = .ok (.aload_n 0, 1) := dw_42 wX6_readOne_c rfl
theorem dX6_readOne_21 : decode cX6_readOne 21 = .ok (.invokevirtual 113, 3) := dw_182 wX6_readOne_c 0 113 rfl rfl
theorem dX6_readOne_24 : decode cX6_readOne 24 = .ok (.ireturn, 1) := dw_172 wX6_readOne_c rfl
theorem dX6_readOne_25 : decode cX6_readOne 25 = .ok (.iload_n 1, 1) := dw_27 wX6_readOne_c rfl
theorem dX6_readOne_26 : decode cX6_readOne 26 = .ok (.bipush 8, 2) := dw_16 wX6_readOne_c 8 rfl rfl rfl
theorem dX6_readOne_28 : decode cX6_readOne 28 = .ok (.if_icmp .lt 13, 3) := dw_161 wX6_readOne_c 0 13 rfl rfl rfl
theorem dX6_readOne_31 : decode cX6_readOne 31 = .ok (.aload_n 0, 1) := dw_42 wX6_readOne_c rfl
theorem dX6_readOne_32 : decode cX6_readOne 32 = .ok (.aload_n 0, 1) := dw_42 wX6_readOne_c rfl
theorem dX6_readOne_33 : decode cX6_readOne 33 = .ok (.getfield 19, 3) := dw_180 wX6_readOne_c 0 19 rfl rfl
theorem dX6_readOne_36 : decode cX6_readOne 36 = .ok (.iconst 3, 1) := dw_6 wX6_readOne_c rfl
theorem dX6_readOne_37 : decode cX6_readOne 37 = .ok (.invokevirtual 45, 3) := dw_182 wX6_readOne_c 0 45 rfl rfl
theorem dX6_readOne_40 : decode cX6_readOne 40 = .ok (.ireturn, 1) := dw_172 wX6_readOne_c rfl
def wNX6_readEither : Nat := 19243356209818555694623493497406494607021188450542253946289283560243664764458820663131790180325936002078267659700710074025209609952091063405851788219622752155128167384371072891909134549462010049066667909550792171818761805075093935268497741351294811395
theorem wX6_readEither_c : hz_cd cX6_readEither wNX6_readEither 104 := ⟨by decide +kernel, by decide +kernel⟩
theorem dX6_readEither_0 : decode cX6_readEither 0 = .ok (.iconst 0, 1) := dw_3 wX6_readEither_c rfl
theorem dX6_readEither_1 : decode cX6_readEither 1 = .ok (.istore_n 2, 1) := dw_61 wX6_readEither_c rfl
theorem dX6_readEither_2 : decode cX6_readEither 2 = .ok (.iconst 0, 1) := dw_3 wX6_readEither_c rfl
theorem dX6_readEither_3 : decode cX6_readEither 3 = .ok (.istore_n 3, 1) := dw_62 wX6_readEither_c rfl
theorem dX6_readEither_4 : decode cX6_readEither 4 = .ok (.iconst 0, 1) := dw_3 wX6_readEither_c rfl
theorem dX6_readEither_5 : decode cX6_readEither 5 = .ok (.istore 4, 2) := dw_54 wX6_readEither_c 4 rfl
theorem dX6_readEither_7 : decode cX6_readEither 7 = .ok (.iload 4, 2) := dw_21 wX6_readEither_c 4 rfl
theorem dX6_readEither_9 : decode cX6_readEither 9 = .ok (.aload_n 0, 1) := dw_42 wX6_readEither_c rfl
theorem dX6_readEither_10 : decode cX6_readEither 10 = .ok (.getfield 15, 3) := dw_180 wX6_readEither_c 0 15 rfl rfl
theorem dX6_readEither_13 : decode cX6_readEither 13 = .ok (.if_icmp .gt 89, 3) := dw_163 wX6_readEither_c 0 89 rfl rfl rfl
theorem dX6_readEither_16 : decode cX6_readEither 16 = .ok (.aload_n 0, 1) := dw_42 wX6_readEither_c rfl
theorem dX6_readEither_17 : decode cX6_readEither 17 = .ok (.iload_n 1, 1) := dw_27 wX6_readEither_c rfl
theorem dX6_readEither_18 : decode cX6_readEither 18 = .ok (.invokevirtual 92, 3) := dw_182 wX6_readEither_c 0 92 rfl rfl
theorem dX6_readEither_21 : decode cX6_readEither 21 = .ok (.ifCond .eq 81, 3) := dw_153 wX6_readEither_c 0 81 rfl rfl rfl
theorem dX6_readEither_24 : decode cX6_readEither 24 = .ok (.iload_n 2, 1) := dw_28 wX6_readEither_c rfl
theorem dX6_readEither_25 : decode cX6_readEither 25 = .ok (.ifCond .eq 11, 3) := dw_153 wX6_readEither_c 0 11 rfl rfl rfl
theorem dX6_readEither_28 : decode cX6_readEither 28 = .ok (.aload_n 0, 1) := dw_42 wX6_readEither_c rfl
theorem dX6_readEither_29 : decode cX6_readEither 29 = .ok (.getfield 31, 3) := dw_180 wX6_readEither_c 0 31 rfl rfl
theorem dX6_readEither_32 : decode cX6_readEither 32 = .ok (.iconst (-1), 1) := dw_2 wX6_readEither_c rfl
theorem dX6_readEither_33 : decode cX6_readEither 33 = .ok (.invokevirtual 95, 3) := dw_182 wX6_readEither_c 0 95 rfl rfl
theorem dX6_readEither_36 : decode cX6_readEither 36 = .ok (.aload_n 0, 1) := dw_42 wX6_readEither_c rfl
theorem dX6_readEither_37 : decode cX6_readEither 37 = .ok (.ldc 99, 2) := dw_18 wX6_readEither_c 99 rfl
theorem dX6_readEither_39 : decode cX6_readEither 39 = .ok (.invokevirtual 101, 3) := dw_182 wX6_readEither_c 0 101 rfl rfl
theorem dX6_readEither_42 : decode cX6_readEither 42 = .ok (.istore_n 2, 1) := dw_61 wX6_readEither_c rfl
theorem dX6_readEither_43 : decode cX6_readEither 43 = .ok (.iload_n 2, 1) := dw_28 wX6_readEither_c rfl
theorem dX6_readEither_44 : decode cX6_readEither 44 = .ok (.ifCond .eq 16, 3) := dw_153 wX6_readEither_c 0 16 rfl rfl rfl
theorem dX6_readEither_47 : decode cX6_readEither 47 = .ok (.aload_n 0, 1) := dw_42 wX6_readEither_c rfl
theorem dX6_readEither_48 : decode cX6_readEither 48 = .ok (.dup, 1) := dw_89 wX6_readEither_c rfl
theorem dX6_readEither_49 : decode cX6_readEither 49 = .ok (.getfield 19, 3) := dw_180 wX6_readEither_c 0 19 rfl rfl
theorem dX6_readEither_52 : decode cX6_readEither 52 = .ok (.iconst 3, 1) := dw_6 wX6_readEither_c rfl
theorem dX6_readEither_53 : decode cX6_readEither 53 = .ok (.iadd, 1) := dw_96 wX6_readEither_c rfl
theorem dX6_readEither_54 : decode cX6_readEither 54 = .ok (.putfield 19, 3) := dw_181 wX6_readEither_c 0 19 rfl rfl
theorem dX6_readEither_57 : decode cX6_readEither 57 = .ok (.goto 39, 3) := dw_167 wX6_readEither_c 0 39 rfl rfl rfl
theorem dX6_readEither_60 : decode cX6_readEither 60 = .ok (.iload_n 3, 1) := dw_29 wX6_readEither_c rfl
theorem dX6_readEither_61 : decode cX6_readEither 61 = .ok (.ifCond .eq 12, 3) := dw_153 wX6_readEither_c 0 12 rfl rfl rfl
theorem dX6_readEither_64 : decode cX6_readEither 64 = .ok (.aload_n 0, 1) := dw_42 wX6_readEither_c rfl
theorem dX6_readEither_65 : decode cX6_readEither 65 = .ok (.getfield 31, 3) := dw_180 wX6_readEither_c 0 31 rfl rfl
theorem dX6_readEither_68 : decode cX6_readEither 68 = .ok (.bipush (-2), 2) := dn_16 wX6_readEither_c 254 rfl (by decide)
theorem dX6_readEither_70 : decode cX6_readEither 70 = .ok (.invokevirtual 95, 3) := dw_182 wX6_readEither_c 0 95 rfl rfl
theorem dX6_readEither_73 : decode cX6_readEither 73 = .ok (.aload_n 0, 1) := dw_42 wX6_readEither_c rfl
theorem dX6_readEither_74 : decode cX6_readEither 74 = .ok (.ldc 105, 2) := dw_18 wX6_readEither_c 105 rfl
theorem dX6_readEither_76 : decode cX6_readEither 76 = .ok (.invokevirtual 101, 3) := dw_182 wX6_readEither_c 0 101 rfl rfl
theorem dX6_readEither_79 : decode cX6_readEither 79 = .ok (.istore_n 3, 1) := dw_62 wX6_readEither_c rfl
theorem dX6_readEither_80 : decode cX6_readEither 80 = .ok (.iload_n 3, 1) := dw_29 wX6_readEither_c rfl
theorem dX6_readEither_81 : decode cX6_readEither 81 = .ok (.ifCond .ne 5, 3) := dw_154 wX6_readEither_c 0 5 rfl rfl rfl
theorem dX6_readEither_84 : decode cX6_readEither 84 = .ok (.iconst 1, 1) := dw_4 wX6_readEither_c rfl
theorem dX6_readEither_85 : decode cX6_readEither 85 = .ok (.ireturn, 1) := dw_172 wX6_readEither_c rfl
theorem dX6_readEither_86 : decode cX6_readEither 86 = .ok (.aload_n 0, 1) := dw_42 wX6_readEither_c rfl
theorem dX6_readEither_87 : decode cX6_readEither 87 = .ok (.dup, 1) := dw_89 wX6_readEither_c rfl
theorem dX6_readEither_88 : decode cX6_readEither 88 = .ok (.getfield 19, 3) := dw_180 wX6_readEither_c 0 19 rfl rfl
theorem dX6_readEither_91 : decode cX6_readEither 91 = .ok (.iconst 2, 1) := dw_5 wX6_readEither_c rfl
theorem dX6_readEither_92 : decode cX6_readEither 92 = .ok (.iadd, 1) := dw_96 wX6_readEither_c rfl
theorem dX6_readEither_93 : decode cX6_readEither 93 = .ok (.putfield 19, 3) := dw_181 wX6_readEither_c 0 19 rfl rfl
theorem dX6_readEither_96 : decode cX6_readEither 96 = .ok (.iinc 4 1, 3) := dw_132 wX6_readEither_c 4 1 rfl rfl rfl
theorem dX6_readEither_99 : decode cX6_readEither 99 = .ok (.goto (-92), 3) := dn_167 wX6_readEither_c 255 164 rfl (by decide)
theorem dX6_readEither_102 : decode cX6_readEither 102 = .ok (.iconst 0, 1) := dw_3 wX6_readEither_c rfl
theorem dX6_readEither_103 : decode cX6_readEither 103 = .ok (.ireturn, 1) := dw_172 wX6_readEither_c rfl
theorem dX6_readOne_41 : decode cX6_readOne 41 = .ok (.iload_n 2, 1) := dw_28 wX6_readOne_c rfl
theorem dX6_readOne_42 : decode cX6_readOne 42 = .ok (.ifCond .eq 36, 3) := dw_153 wX6_readOne_c 0 36 rfl rfl rfl
theorem dX6_readOne_45 : decode cX6_readOne 45 = .ok (.aload_n 0, 1) := dw_42 wX6_readOne_c rfl
theorem dX6_readOne_46 : decode cX6_readOne 46 = .ok (.dup, 1) := dw_89 wX6_readOne_c rfl
theorem dX6_readOne_47 : decode cX6_readOne 47 = .ok (.getfield 19, 3) := dw_180 wX6_readOne_c 0 19 rfl rfl
theorem dX6_readOne_50 : decode cX6_readOne 50 = .ok (.iconst 3, 1) := dw_6 wX6_readOne_c rfl
theorem dX6_readOne_51 : decode cX6_readOne 51 = .ok (.iadd, 1) := dw_96 wX6_readOne_c rfl
theorem dX6_readOne_52 : decode cX6_readOne 52 = .ok (.putfield 19, 3) := dw_181 wX6_readOne_c 0 19 rfl rfl
theorem dX6_readOne_55 : decode cX6_readOne 55 = .ok (.aload_n 0, 1) := dw_42 wX6_readOne_c rfl
theorem dX6_readOne_56 : decode cX6_readOne 56 = .ok (.iload_n 1, 1) := dw_27 wX6_readOne_c rfl
theorem dX6_readOne_57 : decode cX6_readOne 57 = .ok (.iconst 1, 1) := dw_4 wX6_readOne_c rfl
theorem dX6_readOne_58 : decode cX6_readOne 58 = .ok (.iadd, 1) := dw_96 wX6_readOne_c rfl
theorem dX6_readOne_59 : decode cX6_readOne 59 = .ok (.invokevirtual 92, 3) := dw_182 wX6_readOne_c 0 92 rfl rfl
theorem dX6_readOne_62 : decode cX6_readOne 62 = .ok (.ifCond .ne 5, 3) := dw_154 wX6_readOne_c 0 5 rfl rfl rfl
theorem dX6_readOne_65 : decode cX6_readOne 65 = .ok (.iconst 0, 1) := dw_3 wX6_readOne_c rfl
theorem dX6_readOne_66 : decode cX6_readOne 66 = .ok (.ireturn, 1) := dw_172 wX6_readOne_c rfl
theorem dX6_readOne_67 : decode cX6_readOne 67 = .ok (.aload_n 0, 1) := dw_42 wX6_readOne_c rfl
theorem dX6_readOne_68 : decode cX6_readOne 68 = .ok (.getfield 31, 3) := dw_180 wX6_readOne_c 0 31 rfl rfl
theorem dX6_readOne_71 : decode cX6_readOne 71 = .ok (.bipush (-3), 2) := dn_16 wX6_readOne_c 253 rfl (by decide)
theorem dX6_readOne_73 : decode cX6_readOne 73 = .ok (.invokevirtual 95, 3) := dw_182 wX6_readOne_c 0 95 rfl rfl
theorem dX6_readOne_76 : decode cX6_readOne 76 = .ok (.iconst 1, 1) := dw_4 wX6_readOne_c rfl
theorem dX6_readOne_77 : decode cX6_readOne 77 = .ok (.ireturn, 1) := dw_172 wX6_readOne_c rfl
theorem dX6_readOne_78 : decode cX6_readOne 78 = .ok (.aload_n 0, 1) := dw_42 wX6_readOne_c rfl
theorem dX6_readOne_79 : decode cX6_readOne 79 = .ok (.dup, 1) := dw_89 wX6_readOne_c rfl
theorem dX6_readOne_80 : decode cX6_readOne 80 = .ok (.getfield 19, 3) := dw_180 wX6_readOne_c 0 19 rfl rfl
theorem dX6_readOne_83 : decode cX6_readOne 83 = .ok (.iconst 1, 1) := dw_4 wX6_readOne_c rfl
theorem dX6_readOne_84 : decode cX6_readOne 84 = .ok (.iadd, 1) := dw_96 wX6_readOne_c rfl
theorem dX6_readOne_85 : decode cX6_readOne 85 = .ok (.putfield 19, 3) := dw_181 wX6_readOne_c 0 19 rfl rfl
theorem dX6_readOne_88 : decode cX6_readOne 88 = .ok (.aload_n 0, 1) := dw_42 wX6_readOne_c rfl
theorem dX6_readOne_89 : decode cX6_readOne 89 = .ok (.iload_n 1, 1) := dw_27 wX6_readOne_c rfl
theorem dX6_readOne_90 : decode cX6_readOne 90 = .ok (.iconst 1, 1) := dw_4 wX6_readOne_c rfl
theorem dX6_readOne_91 : decode cX6_readOne 91 = .ok (.iadd, 1) := dw_96 wX6_readOne_c rfl
theorem dX6_readOne_92 : decode cX6_readOne 92 = .ok (.invokevirtual 66, 3) := dw_182 wX6_readOne_c 0 66 rfl rfl
theorem dX6_readOne_95 : decode cX6_readOne 95 = .ok (.ifCond .ne 5, 3) := dw_154 wX6_readOne_c 0 5 rfl rfl rfl
theorem dX6_readOne_98 : decode cX6_readOne 98 = .ok (.iconst 0, 1) := dw_3 wX6_readOne_c rfl
theorem dX6_readOne_99 : decode cX6_readOne 99 = .ok (.ireturn, 1) := dw_172 wX6_readOne_c rfl
theorem dX6_readOne_100 : decode cX6_readOne 100 = .ok (.aload_n 0, 1) := dw_42 wX6_readOne_c rfl
theorem dX6_readOne_101 : decode cX6_readOne 101 = .ok (.invokevirtual 35, 3) := dw_182 wX6_readOne_c 0 35 rfl rfl
theorem dX6_readOne_104 : decode cX6_readOne 104 = .ok (.aload_n 0, 1) := dw_42 wX6_readOne_c rfl
theorem dX6_readOne_105 : decode cX6_readOne 105 = .ok (.bipush 41, 2) := dw_16 wX6_readOne_c 41 rfl rfl rfl
theorem dX6_readOne_107 : decode cX6_readOne 107 = .ok (.invokevirtual 109, 3) := dw_182 wX6_readOne_c 0 109 rfl rfl
theorem dX6_readOne_110 : decode cX6_readOne 110 = .ok (.ifCond .ne 13, 3) := dw_154 wX6_readOne_c 0 13 rfl rfl rfl
theorem dX6_readOne_113 : decode cX6_readOne 113 = .ok (.aload_n 0, 1) := dw_42 wX6_readOne_c rfl
theorem dX6_readOne_114 : decode cX6_readOne 114 = .ok (.aload_n 0, 1) := dw_42 wX6_readOne_c rfl
theorem dX6_readOne_115 : decode cX6_readOne 115 = .ok (.getfield 19, 3) := dw_180 wX6_readOne_c 0 19 rfl rfl
theorem dX6_readOne_118 : decode cX6_readOne 118 = .ok (.iconst 0, 1) := dw_3 wX6_readOne_c rfl
theorem dX6_readOne_119 : decode cX6_readOne 119 = .ok (.invokevirtual 45, 3) := dw_182 wX6_readOne_c 0 45 rfl rfl
theorem dX6_readOne_122 : decode cX6_readOne 122 = .ok (.ireturn, 1) := dw_172 wX6_readOne_c rfl
theorem dX6_readOne_123 : decode cX6_readOne 123 = .ok (.aload_n 0, 1) := dw_42 wX6_readOne_c rfl
theorem dX6_readOne_124 : decode cX6_readOne 124 = .ok (.dup, 1) := dw_89 wX6_readOne_c rfl
theorem dX6_readOne_125 : decode cX6_readOne 125 = .ok (.getfield 19, 3) := dw_180 wX6_readOne_c 0 19 rfl rfl
theorem dX6_readOne_128 : decode cX6_readOne 128 = .ok (.iconst 1, 1) := dw_4 wX6_readOne_c rfl
theorem dX6_readOne_129 : decode cX6_readOne 129 = .ok (.iadd, 1) := dw_96 wX6_readOne_c rfl
theorem dX6_readOne_130 : decode cX6_readOne 130 = .ok (.putfield 19, 3) := dw_181 wX6_readOne_c 0 19 rfl rfl
theorem dX6_readOne_133 : decode cX6_readOne 133 = .ok (.iconst 1, 1) := dw_4 wX6_readOne_c rfl
theorem dX6_readOne_134 : decode cX6_readOne 134 = .ok (.ireturn, 1) := dw_172 wX6_readOne_c rfl
end
section
def wNX6_readClause : Nat := 23263457938420194408484441113638802866802896312301805885510208170616052205260356433713364424907615405152806716297273594954419730409444914714581887091532567611014200213531448075414410411913476283595083592779114687056169530304715186221427629237602661567955695474992090152220202
theorem wX6_readClause_c : hz_cd cX6_readClause wNX6_readClause 114 := ⟨by decide +kernel, by decide +kernel⟩
theorem dX6_readClause_0 : decode cX6_readClause 0 = .ok (.aload_n 0, 1) := dw_42 wX6_readClause_c rfl
theorem dX6_readClause_1 : decode cX6_readClause 1 = .ok (.invokevirtual 35, 3) := dw_182 wX6_readClause_c 0 35 rfl rfl
theorem dX6_readClause_4 : decode cX6_readClause 4 = .ok (.aload_n 0, 1) := dw_42 wX6_readClause_c rfl
theorem dX6_readClause_5 : decode cX6_readClause 5 = .ok (.getfield 19, 3) := dw_180 wX6_readClause_c 0 19 rfl rfl
theorem dX6_readClause_8 : decode cX6_readClause 8 = .ok (.istore_n 1, 1) := dw_60 wX6_readClause_c rfl
theorem dX6_readClause_9 : decode cX6_readClause 9 = .ok (.aload_n 0, 1) := dw_42 wX6_readClause_c rfl
theorem dX6_readClause_10 : decode cX6_readClause 10 = .ok (.ldc 49, 2) := dw_18 wX6_readClause_c 49 rfl
theorem dX6_readClause_12 : decode cX6_readClause 12 = .ok (.invokevirtual 51, 3) := dw_182 wX6_readClause_c 0 51 rfl rfl
theorem dX6_readClause_15 : decode cX6_readClause 15 = .ok (.istore_n 2, 1) := dw_61 wX6_readClause_c rfl
theorem dX6_readClause_16 : decode cX6_readClause 16 = .ok (.iload_n 2, 1) := dw_28 wX6_readClause_c rfl
theorem dX6_readClause_17 : decode cX6_readClause 17 = .ok (.ifCond .ge 10, 3) := dw_156 wX6_readClause_c 0 10 rfl rfl rfl
theorem dX6_readClause_20 : decode cX6_readClause 20 = .ok (.aload_n 0, 1) := dw_42 wX6_readClause_c rfl
theorem dX6_readClause_21 : decode cX6_readClause 21 = .ok (.iload_n 1, 1) := dw_27 wX6_readClause_c rfl
theorem dX6_readClause_22 : decode cX6_readClause 22 = .ok (.iconst 0, 1) := dw_3 wX6_readClause_c rfl
theorem dX6_readClause_23 : decode cX6_readClause 23 = .ok (.invokevirtual 45, 3) := dw_182 wX6_readClause_c 0 45 rfl rfl
theorem dX6_readClause_26 : decode cX6_readClause 26 = .ok (.ireturn, 1) := dw_172 wX6_readClause_c rfl
theorem dX6_readClause_27 : decode cX6_readClause 27 = .ok (.iload_n 2, 1) := dw_28 wX6_readClause_c rfl
theorem dX6_readClause_28 : decode cX6_readClause 28 = .ok (.bipush 10, 2) := dw_16 wX6_readClause_c 10 rfl rfl rfl
theorem dX6_readClause_30 : decode cX6_readClause 30 = .ok (.if_icmp .ne 8, 3) := dw_160 wX6_readClause_c 0 8 rfl rfl rfl
theorem dX6_readClause_33 : decode cX6_readClause 33 = .ok (.aload_n 0, 1) := dw_42 wX6_readClause_c rfl
theorem dX6_readClause_34 : decode cX6_readClause 34 = .ok (.invokevirtual 55, 3) := dw_182 wX6_readClause_c 0 55 rfl rfl
theorem dX6_readClause_37 : decode cX6_readClause 37 = .ok (.ireturn, 1) := dw_172 wX6_readClause_c rfl
theorem dX6_readClause_38 : decode cX6_readClause 38 = .ok (.iload_n 2, 1) := dw_28 wX6_readClause_c rfl
theorem dX6_readClause_39 : decode cX6_readClause 39 = .ok (.bipush 11, 2) := dw_16 wX6_readClause_c 11 rfl rfl rfl
theorem dX6_readClause_41 : decode cX6_readClause 41 = .ok (.if_icmp .ne 35, 3) := dw_160 wX6_readClause_c 0 35 rfl rfl rfl
theorem dX6_readClause_44 : decode cX6_readClause 44 = .ok (.aload_n 0, 1) := dw_42 wX6_readClause_c rfl
theorem dX6_readClause_45 : decode cX6_readClause 45 = .ok (.getfield 31, 3) := dw_180 wX6_readClause_c 0 31 rfl rfl
theorem dX6_readClause_48 : decode cX6_readClause 48 = .ok (.iconst 0, 1) := dw_3 wX6_readClause_c rfl
theorem dX6_readClause_49 : decode cX6_readClause 49 = .ok (.putfield 58, 3) := dw_181 wX6_readClause_c 0 58 rfl rfl
theorem dX6_readClause_52 : decode cX6_readClause 52 = .ok (.aload_n 0, 1) := dw_42 wX6_readClause_c rfl
theorem dX6_readClause_53 : decode cX6_readClause 53 = .ok (.bipush 14, 2) := dw_16 wX6_readClause_c 14 rfl rfl rfl
theorem dX6_readClause_55 : decode cX6_readClause 55 = .ok (.iload_n 1, 1) := dw_27 wX6_readClause_c rfl
theorem dX6_readClause_56 : decode cX6_readClause 56 = .ok (.invokevirtual 63, 3) := dw_182 wX6_readClause_c 0 63 rfl rfl
theorem dX6_readClause_59 : decode cX6_readClause 59 = .ok (.ifCond .eq 15, 3) := dw_153 wX6_readClause_c 0 15 rfl rfl rfl
theorem dX6_readClause_62 : decode cX6_readClause 62 = .ok (.aload_n 0, 1) := dw_42 wX6_readClause_c rfl
theorem dX6_readClause_63 : decode cX6_readClause 63 = .ok (.iconst 0, 1) := dw_3 wX6_readClause_c rfl
theorem dX6_readClause_64 : decode cX6_readClause 64 = .ok (.invokevirtual 66, 3) := dw_182 wX6_readClause_c 0 66 rfl rfl
theorem dX6_readClause_67 : decode cX6_readClause 67 = .ok (.ifCond .eq 7, 3) := dw_153 wX6_readClause_c 0 7 rfl rfl rfl
theorem dX6_readClause_70 : decode cX6_readClause 70 = .ok (.iconst 1, 1) := dw_4 wX6_readClause_c rfl
theorem dX6_readClause_71 : decode cX6_readClause 71 = .ok (.goto 4, 3) := dw_167 wX6_readClause_c 0 4 rfl rfl rfl
theorem dX6_readClause_74 : decode cX6_readClause 74 = .ok (.iconst 0, 1) := dw_3 wX6_readClause_c rfl
theorem dX6_readClause_75 : decode cX6_readClause 75 = .ok (.ireturn, 1) := dw_172 wX6_readClause_c rfl
theorem dX6_readClause_76 : decode cX6_readClause 76 = .ok (.aload_n 0, 1) := dw_42 wX6_readClause_c rfl
theorem dX6_readClause_77 : decode cX6_readClause 77 = .ok (.iload_n 2, 1) := dw_28 wX6_readClause_c rfl
theorem dX6_readClause_78 : decode cX6_readClause 78 = .ok (.iload_n 1, 1) := dw_27 wX6_readClause_c rfl
theorem dX6_readClause_79 : decode cX6_readClause 79 = .ok (.invokevirtual 63, 3) := dw_182 wX6_readClause_c 0 63 rfl rfl
theorem dX6_readClause_82 : decode cX6_readClause 82 = .ok (.ifCond .eq 30, 3) := dw_153 wX6_readClause_c 0 30 rfl rfl rfl
theorem dX6_readClause_85 : decode cX6_readClause 85 = .ok (.aload_n 0, 1) := dw_42 wX6_readClause_c rfl
theorem dX6_readClause_86 : decode cX6_readClause 86 = .ok (.iload_n 2, 1) := dw_28 wX6_readClause_c rfl
theorem dX6_readClause_87 : decode cX6_readClause 87 = .ok (.invokevirtual 70, 3) := dw_182 wX6_readClause_c 0 70 rfl rfl
theorem dX6_readClause_90 : decode cX6_readClause 90 = .ok (.ifCond .eq 22, 3) := dw_153 wX6_readClause_c 0 22 rfl rfl rfl
theorem dX6_readClause_93 : decode cX6_readClause 93 = .ok (.iload_n 2, 1) := dw_28 wX6_readClause_c rfl
theorem dX6_readClause_94 : decode cX6_readClause 94 = .ok (.bipush 6, 2) := dw_16 wX6_readClause_c 6 rfl rfl rfl
theorem dX6_readClause_96 : decode cX6_readClause 96 = .ok (.if_icmp .ne 12, 3) := dw_160 wX6_readClause_c 0 12 rfl rfl rfl
theorem dX6_readClause_99 : decode cX6_readClause 99 = .ok (.aload_n 0, 1) := dw_42 wX6_readClause_c rfl
theorem dX6_readClause_100 : decode cX6_readClause 100 = .ok (.bipush 7, 2) := dw_16 wX6_readClause_c 7 rfl rfl rfl
theorem dX6_readClause_102 : decode cX6_readClause 102 = .ok (.invokevirtual 70, 3) := dw_182 wX6_readClause_c 0 70 rfl rfl
theorem dX6_readClause_105 : decode cX6_readClause 105 = .ok (.ifCond .eq 7, 3) := dw_153 wX6_readClause_c 0 7 rfl rfl rfl
theorem dX6_readClause_108 : decode cX6_readClause 108 = .ok (.iconst 1, 1) := dw_4 wX6_readClause_c rfl
theorem dX6_readClause_109 : decode cX6_readClause 109 = .ok (.goto 4, 3) := dw_167 wX6_readClause_c 0 4 rfl rfl rfl
theorem dX6_readClause_112 : decode cX6_readClause 112 = .ok (.iconst 0, 1) := dw_3 wX6_readClause_c rfl
theorem dX6_readClause_113 : decode cX6_readClause 113 = .ok (.ireturn, 1) := dw_172 wX6_readClause_c rfl
def wNX6_isAnotherClause : Nat := 29110309711541612278117171414002039464207370777262912330279695417615930300804475098918017434637932032677623087526024198446167594
theorem wX6_isAnotherClause_c : hz_cd cX6_isAnotherClause wNX6_isAnotherClause 53 := ⟨by decide +kernel, by decide +kernel⟩
theorem dX6_isAnotherClause_0 : decode cX6_isAnotherClause 0 = .ok (.aload_n 0, 1) := dw_42 wX6_isAnotherClause_c rfl
theorem dX6_isAnotherClause_1 : decode cX6_isAnotherClause 1 = .ok (.invokevirtual 35, 3) := dw_182 wX6_isAnotherClause_c 0 35 rfl rfl
theorem dX6_isAnotherClause_4 : decode cX6_isAnotherClause 4 = .ok (.aload_n 0, 1) := dw_42 wX6_isAnotherClause_c rfl
theorem dX6_isAnotherClause_5 : decode cX6_isAnotherClause 5 = .ok (.getfield 19, 3) := dw_180 wX6_isAnotherClause_c 0 19 rfl rfl
theorem dX6_isAnotherClause_8 : decode cX6_isAnotherClause 8 = .ok (.aload_n 0, 1) := dw_42 wX6_isAnotherClause_c rfl
theorem dX6_isAnotherClause_9 : decode cX6_isAnotherClause 9 = .ok (.getfield 15, 3) := dw_180 wX6_isAnotherClause_c 0 15 rfl rfl
theorem dX6_isAnotherClause_12 : decode cX6_isAnotherClause 12 = .ok (.if_icmp .lt 5, 3) := dw_161 wX6_isAnotherClause_c 0 5 rfl rfl rfl
theorem dX6_isAnotherClause_15 : decode cX6_isAnotherClause 15 = .ok (.iconst 0, 1) := dw_3 wX6_isAnotherClause_c rfl
theorem dX6_isAnotherClause_16 : decode cX6_isAnotherClause 16 = .ok (.ireturn, 1) := dw_172 wX6_isAnotherClause_c rfl
theorem dX6_isAnotherClause_17 : decode cX6_isAnotherClause 17 = .ok (.aload_n 0, 1) := dw_42 wX6_isAnotherClause_c rfl
theorem dX6_isAnotherClause_18 : decode cX6_isAnotherClause 18 = .ok (.getfield 9, 3) := dw_180 wX6_isAnotherClause_c 0 9 rfl rfl
theorem dX6_isAnotherClause_21 : decode cX6_isAnotherClause 21 = .ok (.aload_n 0, 1) := dw_42 wX6_isAnotherClause_c rfl
theorem dX6_isAnotherClause_22 : decode cX6_isAnotherClause 22 = .ok (.getfield 19, 3) := dw_180 wX6_isAnotherClause_c 0 19 rfl rfl
theorem dX6_isAnotherClause_25 : decode cX6_isAnotherClause 25 = .ok (.baload, 1) := dw_51 wX6_isAnotherClause_c rfl
theorem dX6_isAnotherClause_26 : decode cX6_isAnotherClause 26 = .ok (.bipush 59, 2) := dw_16 wX6_isAnotherClause_c 59 rfl rfl rfl
theorem dX6_isAnotherClause_28 : decode cX6_isAnotherClause 28 = .ok (.if_icmp .eq 13, 3) := dw_159 wX6_isAnotherClause_c 0 13 rfl rfl rfl
theorem dX6_isAnotherClause_31 : decode cX6_isAnotherClause 31 = .ok (.aload_n 0, 1) := dw_42 wX6_isAnotherClause_c rfl
theorem dX6_isAnotherClause_32 : decode cX6_isAnotherClause 32 = .ok (.aload_n 0, 1) := dw_42 wX6_isAnotherClause_c rfl
theorem dX6_isAnotherClause_33 : decode cX6_isAnotherClause 33 = .ok (.getfield 19, 3) := dw_180 wX6_isAnotherClause_c 0 19 rfl rfl
theorem dX6_isAnotherClause_36 : decode cX6_isAnotherClause 36 = .ok (.iconst 0, 1) := dw_3 wX6_isAnotherClause_c rfl
theorem dX6_isAnotherClause_37 : decode cX6_isAnotherClause 37 = .ok (.invokevirtual 45, 3) := dw_182 wX6_isAnotherClause_c 0 45 rfl rfl
theorem dX6_isAnotherClause_40 : decode cX6_isAnotherClause 40 = .ok (.ireturn, 1) := dw_172 wX6_isAnotherClause_c rfl
theorem dX6_isAnotherClause_41 : decode cX6_isAnotherClause 41 = .ok (.aload_n 0, 1) := dw_42 wX6_isAnotherClause_c rfl
theorem dX6_isAnotherClause_42 : decode cX6_isAnotherClause 42 = .ok (.dup, 1) := dw_89 wX6_isAnotherClause_c rfl
theorem dX6_isAnotherClause_43 : decode cX6_isAnotherClause 43 = .ok (.getfield 19, 3) := dw_180 wX6_isAnotherClause_c 0 19 rfl rfl
theorem dX6_isAnotherClause_46 : decode cX6_isAnotherClause 46 = .ok (.iconst 1, 1) := dw_4 wX6_isAnotherClause_c rfl
theorem dX6_isAnotherClause_47 : decode cX6_isAnotherClause 47 = .ok (.iadd, 1) := dw_96 wX6_isAnotherClause_c rfl
theorem dX6_isAnotherClause_48 : decode cX6_isAnotherClause 48 = .ok (.putfield 19, 3) := dw_181 wX6_isAnotherClause_c 0 19 rfl rfl
theorem dX6_isAnotherClause_51 : decode cX6_isAnotherClause 51 = .ok (.iconst 1, 1) := dw_4 wX6_isAnotherClause_c rfl
theorem dX6_isAnotherClause_52 : decode cX6_isAnotherClause 52 = .ok (.ireturn, 1) := dw_172 wX6_isAnotherClause_c rfl
def wNX6_readAct : Nat := 6550904697409258924151148214841616862762914885797107122918157767471658788079566816342609712596164020947052719890348903434459215244701965376387488570403956771075721280932322763827130125217261449468564335220248031386510647932391601791873077327194845648831533351251387984572243084624862194474
theorem wX6_readAct_c : hz_cd cX6_readAct wNX6_readAct 120 := ⟨by decide +kernel, by decide +kernel⟩
theorem dX6_readAct_0 : decode cX6_readAct 0 = .ok (.aload_n 0, 1) := dw_42 wX6_readAct_c rfl
theorem dX6_readAct_1 : decode cX6_readAct 1 = .ok (.aload_n 1, 1) := dw_43 wX6_readAct_c rfl
theorem dX6_readAct_2 : decode cX6_readAct 2 = .ok (.putfield 9, 3) := dw_181 wX6_readAct_c 0 9 rfl rfl
theorem dX6_readAct_5 : decode cX6_readAct 5 = .ok (.aload_n 0, 1) := dw_42 wX6_readAct_c rfl
theorem dX6_readAct_6 : decode cX6_readAct 6 = .ok (.iload_n 2, 1) := dw_28 wX6_readAct_c rfl
theorem dX6_readAct_7 : decode cX6_readAct 7 = .ok (.ifCond .lt 9, 3) := dw_155 wX6_readAct_c 0 9 rfl rfl rfl
theorem dX6_readAct_10 : decode cX6_readAct 10 = .ok (.iload_n 2, 1) := dw_28 wX6_readAct_c rfl
theorem dX6_readAct_11 : decode cX6_readAct 11 = .ok (.aload_n 1, 1) := dw_43 wX6_readAct_c rfl
theorem dX6_readAct_12 : decode cX6_readAct 12 = .ok (.arraylength, 1) := dw_190 wX6_readAct_c rfl
theorem dX6_readAct_13 : decode cX6_readAct 13 = .ok (.if_icmp .le 7, 3) := dw_164 wX6_readAct_c 0 7 rfl rfl rfl
theorem dX6_readAct_20 : decode cX6_readAct 20 = .ok (.iload_n 2, 1) := dw_28 wX6_readAct_c rfl
theorem dX6_readAct_21 : decode cX6_readAct 21 = .ok (.putfield 15, 3) := dw_181 wX6_readAct_c 0 15 rfl rfl
theorem dX6_readAct_24 : decode cX6_readAct 24 = .ok (.aload_n 0, 1) := dw_42 wX6_readAct_c rfl
theorem dX6_readAct_25 : decode cX6_readAct 25 = .ok (.iconst 0, 1) := dw_3 wX6_readAct_c rfl
theorem dX6_readAct_26 : decode cX6_readAct 26 = .ok (.putfield 19, 3) := dw_181 wX6_readAct_c 0 19 rfl rfl
theorem dX6_readAct_29 : decode cX6_readAct 29 = .ok (.aload_n 0, 1) := dw_42 wX6_readAct_c rfl
theorem dX6_readAct_30 : decode cX6_readAct 30 = .ok (.iconst 0, 1) := dw_3 wX6_readAct_c rfl
theorem dX6_readAct_31 : decode cX6_readAct 31 = .ok (.putfield 22, 3) := dw_181 wX6_readAct_c 0 22 rfl rfl
theorem dX6_readAct_34 : decode cX6_readAct 34 = .ok (.aload_n 0, 1) := dw_42 wX6_readAct_c rfl
theorem dX6_readAct_35 : decode cX6_readAct 35 = .ok (.iconst 0, 1) := dw_3 wX6_readAct_c rfl
theorem dX6_readAct_36 : decode cX6_readAct 36 = .ok (.putfield 25, 3) := dw_181 wX6_readAct_c 0 25 rfl rfl
theorem dX6_readAct_39 : decode cX6_readAct 39 = .ok (.aload_n 0, 1) := dw_42 wX6_readAct_c rfl
theorem dX6_readAct_40 : decode cX6_readAct 40 = .ok (.iconst 0, 1) := dw_3 wX6_readAct_c rfl
theorem dX6_readAct_41 : decode cX6_readAct 41 = .ok (.putfield 28, 3) := dw_181 wX6_readAct_c 0 28 rfl rfl
theorem dX6_readAct_44 : decode cX6_readAct 44 = .ok (.aload_n 0, 1) := dw_42 wX6_readAct_c rfl
theorem dX6_readAct_45 : decode cX6_readAct 45 = .ok (.aload_n 3, 1) := dw_45 wX6_readAct_c rfl
theorem dX6_readAct_46 : decode cX6_readAct 46 = .ok (.putfield 31, 3) := dw_181 wX6_readAct_c 0 31 rfl rfl
theorem dX6_readAct_49 : decode cX6_readAct 49 = .ok (.aload_n 0, 1) := dw_42 wX6_readAct_c rfl
theorem dX6_readAct_50 : decode cX6_readAct 50 = .ok (.invokevirtual 35, 3) := dw_182 wX6_readAct_c 0 35 rfl rfl
theorem dX6_readAct_53 : decode cX6_readAct 53 = .ok (.aload_n 0, 1) := dw_42 wX6_readAct_c rfl
theorem dX6_readAct_54 : decode cX6_readAct 54 = .ok (.getfield 19, 3) := dw_180 wX6_readAct_c 0 19 rfl rfl
theorem dX6_readAct_57 : decode cX6_readAct 57 = .ok (.aload_n 0, 1) := dw_42 wX6_readAct_c rfl
theorem dX6_readAct_58 : decode cX6_readAct 58 = .ok (.getfield 15, 3) := dw_180 wX6_readAct_c 0 15 rfl rfl
theorem dX6_readAct_61 : decode cX6_readAct 61 = .ok (.if_icmp .ge 7, 3) := dw_162 wX6_readAct_c 0 7 rfl rfl rfl
theorem dX6_readAct_64 : decode cX6_readAct 64 = .ok (.iconst 1, 1) := dw_4 wX6_readAct_c rfl
theorem dX6_readAct_65 : decode cX6_readAct 65 = .ok (.goto 4, 3) := dw_167 wX6_readAct_c 0 4 rfl rfl rfl
theorem dX6_readAct_68 : decode cX6_readAct 68 = .ok (.iconst 0, 1) := dw_3 wX6_readAct_c rfl
theorem dX6_readAct_69 : decode cX6_readAct 69 = .ok (.istore 4, 2) := dw_54 wX6_readAct_c 4 rfl
theorem dX6_readAct_71 : decode cX6_readAct 71 = .ok (.iconst 0, 1) := dw_3 wX6_readAct_c rfl
theorem dX6_readAct_72 : decode cX6_readAct 72 = .ok (.istore 5, 2) := dw_54 wX6_readAct_c 5 rfl
theorem dX6_readAct_74 : decode cX6_readAct 74 = .ok (.iload 5, 2) := dw_21 wX6_readAct_c 5 rfl
theorem dX6_readAct_76 : decode cX6_readAct 76 = .ok (.aload_n 0, 1) := dw_42 wX6_readAct_c rfl
theorem dX6_readAct_77 : decode cX6_readAct 77 = .ok (.getfield 15, 3) := dw_180 wX6_readAct_c 0 15 rfl rfl
theorem dX6_readAct_80 : decode cX6_readAct 80 = .ok (.if_icmp .gt 35, 3) := dw_163 wX6_readAct_c 0 35 rfl rfl rfl
theorem dX6_readAct_83 : decode cX6_readAct 83 = .ok (.iload 4, 2) := dw_21 wX6_readAct_c 4 rfl
theorem dX6_readAct_85 : decode cX6_readAct 85 = .ok (.ifCond .eq 30, 3) := dw_153 wX6_readAct_c 0 30 rfl rfl rfl
theorem dX6_readAct_88 : decode cX6_readAct 88 = .ok (.aload_n 0, 1) := dw_42 wX6_readAct_c rfl
theorem dX6_readAct_89 : decode cX6_readAct 89 = .ok (.invokevirtual 38, 3) := dw_182 wX6_readAct_c 0 38 rfl rfl
theorem dX6_readAct_92 : decode cX6_readAct 92 = .ok (.ifCond .eq 14, 3) := dw_153 wX6_readAct_c 0 14 rfl rfl rfl
theorem dX6_readAct_95 : decode cX6_readAct 95 = .ok (.aload_n 0, 1) := dw_42 wX6_readAct_c rfl
theorem dX6_readAct_96 : decode cX6_readAct 96 = .ok (.invokevirtual 42, 3) := dw_182 wX6_readAct_c 0 42 rfl rfl
theorem dX6_readAct_99 : decode cX6_readAct 99 = .ok (.ifCond .eq 7, 3) := dw_153 wX6_readAct_c 0 7 rfl rfl rfl
theorem dX6_readAct_102 : decode cX6_readAct 102 = .ok (.iconst 1, 1) := dw_4 wX6_readAct_c rfl
theorem dX6_readAct_103 : decode cX6_readAct 103 = .ok (.goto 4, 3) := dw_167 wX6_readAct_c 0 4 rfl rfl rfl
theorem dX6_readAct_106 : decode cX6_readAct 106 = .ok (.iconst 0, 1) := dw_3 wX6_readAct_c rfl
theorem dX6_readAct_107 : decode cX6_readAct 107 = .ok (.istore 4, 2) := dw_54 wX6_readAct_c 4 rfl
theorem dX6_readAct_109 : decode cX6_readAct 109 = .ok (.iinc 5 1, 3) := dw_132 wX6_readAct_c 5 1 rfl rfl rfl
theorem dX6_readAct_112 : decode cX6_readAct 112 = .ok (.goto (-38), 3) := dn_167 wX6_readAct_c 255 218 rfl (by decide)
theorem dX6_readAct_115 : decode cX6_readAct 115 = .ok (.aload_n 0, 1) := dw_42 wX6_readAct_c rfl
theorem dX6_readAct_116 : decode cX6_readAct 116 = .ok (.getfield 22, 3) := dw_180 wX6_readAct_c 0 22 rfl rfl
theorem dX6_readAct_119 : decode cX6_readAct 119 = .ok (.ireturn, 1) := dw_172 wX6_readAct_c rfl
end
section
set_option maxHeartbeats 4000000 in
set_option maxRecDepth 100000 in
theorem t_X9_isWithin_2 (l : Launch) (dC : Nat → ClassId) (dI : Nat → Nat → Nat) (dA : Nat → ClassId) (L : List Nat) (h : hx_h) (sz : Nat) (i1 : Int32) (i2 : Int32) (i3 : Int32) (hT : hx_T T_tb L h)   : Met l yX9_isWithin (Cond.code yX9_isWithin cX9_isWithin 3 (some .boolean) :: hx_all) ({ frames := 0, cells := 0, slots := 0, locals := 0 }) (va_Pc [.int i1, .int i2, .int i3] (hx_B T_tb (P_ty dA) (dC, dI) vwCl L h sz)) (va_Qi (fun (r : Int32) (u : List Nat × hx_h) => ((r.toInt = 0 ∧ (i1.toInt < i2.toInt ∨ i3.toInt < i1.toInt)) ∨ (r.toInt = 1 ∧ i2.toInt ≤ i1.toInt ∧ i1.toInt ≤ i3.toInt)) ∧ hx_T T_tb u.1 u.2 ∧ hx_S T_tb [] L h u.1 u.2) (hx_E T_tb (P_ty dA) (dC, dI) vwCl (hx_A L sz)) (hx_A L sz)) 0 0 (hx_A L sz) := by
  refine hx_met (lv := [(0, .int i1), (1, .int i2), (2, .int i3)]) (by decide +kernel) rfl (Nat.le_of_ble_eq_true rfl) rfl ?_
  intro p e s m below meth c hx hb hml hr hlk hts0 hown hin hsz hW ls hl
  have hts : ∀ w ∈ hx_all, w.before _ s = true := fun w hw => hts0 w (List.mem_cons_of_mem _ hw)
  have hown : s.vm.findClass "SmallCourt" = some m.cls := hown
  have hM : hx_S T_tb [] L h L h := hx_S.rf
  refine lv_iload_n hx hb dX9_isWithin_0 rfl (lv_at hl 0 rfl) ?_
  refine lv_iload_n hx hb dX9_isWithin_1 rfl (lv_at hl 1 rfl) ?_
  refine hb_icmp_lt (zx := i1.toInt) (zy := i2.toInt) (tgt := 14) hx hb rfl rfl dX9_isWithin_2 ?o0 (fun c_1 => ?_) (fun c_1 => ?_)
  case o0 => decide
  · skip
    refine lv_iconst (v := 0) hx hb dX9_isWithin_14 ?o1 ?_
    case o1 => decide
    exact hx_retz hx hb hr rfl hlk hW ⟨(by have zr : (0 : Int32).toInt = 0 := (by decide); (first | omega | (refine ⟨?_, ?_⟩ <;> omega))), hT, hM⟩ dX9_isWithin_15
  · skip
    refine lv_iload_n hx hb dX9_isWithin_5 rfl (lv_at hl 0 rfl) ?_
    refine lv_iload_n hx hb dX9_isWithin_6 rfl (lv_at hl 2 rfl) ?_
    refine hb_icmp_gt (zx := i1.toInt) (zy := i3.toInt) (tgt := 14) hx hb rfl rfl dX9_isWithin_7 ?o2 (fun c_2 => ?_) (fun c_2 => ?_)
    case o2 => decide
    · skip
      refine lv_iconst (v := 0) hx hb dX9_isWithin_14 ?o3 ?_
      case o3 => decide
      exact hx_retz hx hb hr rfl hlk hW ⟨(by have zr : (0 : Int32).toInt = 0 := (by decide); (first | omega | (refine ⟨?_, ?_⟩ <;> omega))), hT, hM⟩ dX9_isWithin_15
    · skip
      refine lv_iconst (v := 1) hx hb dX9_isWithin_10 ?o4 ?_
      case o4 => decide
      refine lv_goto (tgt := 15) hx hb dX9_isWithin_11 ?o5 ?_
      case o5 => decide
      exact hx_retz hx hb hr rfl hlk hW ⟨(by have zr : (1 : Int32).toInt = 1 := (by decide); (first | omega | (refine ⟨?_, ?_⟩ <;> omega))), hT, hM⟩ dX9_isWithin_15


set_option maxHeartbeats 4000000 in
set_option maxRecDepth 100000 in
theorem t_X9_isDay_2 (l : Launch) (dC : Nat → ClassId) (dI : Nat → Nat → Nat) (dA : Nat → ClassId) (L : List Nat) (h : hx_h) (sz : Nat) (i1 : Int32) (hT : hx_T T_tb L h)   : Met l yX9_isDay (Cond.code yX9_isDay cX9_isDay 1 (some .boolean) :: hx_all) ({ frames := 1, cells := 0, slots := 0, locals := 22 }) (va_Pc [.int i1] (hx_B T_tb (P_ty dA) (dC, dI) vwCl L h sz)) (va_Qi (fun (r : Int32) (u : List Nat × hx_h) => ((r.toInt = 0 ∧ (i1.toInt < 0 ∨ 7999 < i1.toInt)) ∨ (r.toInt = 1 ∧ 0 ≤ i1.toInt ∧ i1.toInt ≤ 7999)) ∧ hx_T T_tb u.1 u.2 ∧ hx_S T_tb [] L h u.1 u.2) (hx_E T_tb (P_ty dA) (dC, dI) vwCl (hx_A L sz)) (hx_A L sz)) 0 0 (hx_A L sz) := by
  refine hx_met (lv := [(0, .int i1)]) (by decide +kernel) rfl (Nat.le_of_ble_eq_true rfl) rfl ?_
  intro p e s m below meth c hx hb hml hr hlk hts0 hown hin hsz hW ls hl
  have hts : ∀ w ∈ hx_all, w.before _ s = true := fun w hw => hts0 w (List.mem_cons_of_mem _ hw)
  have hown : s.vm.findClass "SmallCourt" = some m.cls := hown
  have hM : hx_S T_tb [] L h L h := hx_S.rf
  refine lv_iload_n hx hb dX9_isDay_0 rfl (lv_at hl 0 rfl) ?_
  refine lv_iconst (v := 0) hx hb dX9_isDay_1 ?o0 ?_
  case o0 => decide
  refine lv_sipush (v := 7999) hx hb dX9_isDay_2 ?o1 ?_
  case o1 => decide
  have zc_7999 : (7999 : Int32).toInt = 7999 := ?o2
  case o2 => decide
  have zc_0 : (0 : Int32).toInt = 0 := ?o3
  case o3 => decide
  refine hx_goi (hx_runS (As := [.int i1, .int (0 : Int32), .int (7999 : Int32)]) (rest := []) ⟨hx, hb, hml, hown, hts⟩ hW (t_X9_isWithin_2 l dC dI dA L h s.heap.size i1 (0 : Int32) (7999 : Int32) hT) (va_cwS 3 hts (hx_gS kw_434 kw_432 kw_433 kw_94) rfl rfl rfl (by decide +kernel) ⟨Nat.le_of_ble_eq_true rfl, Nat.le_of_ble_eq_true rfl⟩) rfl hl.1 rfl (Nat.le_of_ble_eq_true rfl) dX9_isDay_5 ⟨Nat.le_of_ble_eq_true rfl, Nat.le_of_ble_eq_true rfl⟩) hW (fun r_3 L_1 h_2 H locs p_4 hW => ?_)
  obtain ⟨hr_5, hT, hs⟩ := p_4
  replace hT : hx_T T_tb L_1 h_2 := hT
  replace hs : hx_S T_tb [] L h L_1 h_2 := hs
  replace hM := hM.tr (hs.mono ?o4)
  case o4 => decide
  exact hx_retz hx hb hr (hx_nar01 (by omega)) hlk hW ⟨(by first | omega | (refine ⟨?_, ?_⟩ <;> omega)), hT, hM⟩ dX9_isDay_8

theorem dX9_clock_0 : decode cX9_clock 0 = .ok (.iload_n 1, 1) := by decide +kernel
theorem dX9_clock_1 : decode cX9_clock 1 = .ok (.invokestatic 90, 3) := by decide +kernel
theorem dX9_clock_4 : decode cX9_clock 4 = .ok (.ifCond .eq 11, 3) := by decide +kernel
theorem dX9_clock_7 : decode cX9_clock 7 = .ok (.iload_n 1, 1) := by decide +kernel
theorem dX9_clock_8 : decode cX9_clock 8 = .ok (.aload_n 0, 1) := by decide +kernel
theorem dX9_clock_9 : decode cX9_clock 9 = .ok (.getfield 94, 3) := by decide +kernel
theorem dX9_clock_12 : decode cX9_clock 12 = .ok (.if_icmp .ge 5, 3) := by decide +kernel
theorem dX9_clock_15 : decode cX9_clock 15 = .ok (.iconst 0, 1) := by decide +kernel
theorem dX9_clock_16 : decode cX9_clock 16 = .ok (.ireturn, 1) := by decide +kernel
theorem dX9_clock_17 : decode cX9_clock 17 = .ok (.aload_n 0, 1) := by decide +kernel
theorem dX9_clock_18 : decode cX9_clock 18 = .ok (.iload_n 1, 1) := by decide +kernel
theorem dX9_clock_19 : decode cX9_clock 19 = .ok (.putfield 94, 3) := by decide +kernel
theorem dX9_clock_22 : decode cX9_clock 22 = .ok (.iconst 1, 1) := by decide +kernel
theorem dX9_clock_23 : decode cX9_clock 23 = .ok (.ireturn, 1) := by decide +kernel
set_option maxHeartbeats 4000000 in
set_option maxRecDepth 100000 in
theorem t_X9_clock (l : Launch) (dC : Nat → ClassId) (dI : Nat → Nat → Nat) (dA : Nat → ClassId) (L : List Nat) (h : hx_h) (sz : Nat) (x : Nat) (i1 : Int32) (hT : hx_T T_tb L h) (gx : hx_g L h x 9) (now0 : Int32) (f_x_2 : h.2.1 x 2 = now0) : Met l yX9_clock (Cond.code yX9_clock cX9_clock 2 (some .boolean) :: hx_all) ({ frames := 2, cells := 0, slots := 0, locals := 42 }) (va_Pc [.ref x, .int i1] (hx_B T_tb (P_ty dA) (dC, dI) vwCl L h sz)) (va_Qi (fun (r : Int32) (u : List Nat × hx_h) => (∃ (now1 : Int32), u.2.2.1 x 2 = now1 ∧ ((r.toInt = 0 ∨ r.toInt = 1) ∧ (r.toInt = 0 → (i1.toInt < now0.toInt ∨ 7999 < i1.toInt) ∧ now1 = now0) ∧ (r.toInt = 1 → now0.toInt ≤ i1.toInt ∧ i1.toInt ≤ 7999 ∧ now1 = i1))) ∧ hx_T T_tb u.1 u.2 ∧ hx_S T_tb [(9, 2)] L h u.1 u.2) (hx_E T_tb (P_ty dA) (dC, dI) vwCl (hx_A L sz)) (hx_A L sz)) 0 0 (hx_A L sz) := by
  refine hx_met (lv := [(0, .ref x), (1, .int i1)]) (by decide +kernel) rfl (Nat.le_of_ble_eq_true rfl) rfl ?_
  intro p e s m below meth c hx hb hml hr hlk hts0 hown hin hsz hW ls hl
  have hts : ∀ w ∈ hx_all, w.before _ s = true := fun w hw => hts0 w (List.mem_cons_of_mem _ hw)
  have hown : s.vm.findClass "SmallCourt" = some m.cls := hown
  have hM : hx_S T_tb [(9, 2)] L h L h := hx_S.rf
  have b_now0 := hT.gi gx tt_9 (k := 2) rfl
  rw [f_x_2] at b_now0
  have b_now0 : 0 ≤ now0.toInt ∧ now0.toInt ≤ 7999 := b_now0
  refine lv_iload_n hx hb dX9_clock_0 rfl (lv_at hl 1 rfl) ?_
  refine hx_goi (hx_runS (As := [.int i1]) (rest := []) ⟨hx, hb, hml, hown, hts⟩ hW (t_X9_isDay_2 l dC dI dA L h s.heap.size i1 hT) (va_cwS 1 hts (hx_gS kw_431 kw_429 kw_430 kw_94) rfl rfl rfl (by decide +kernel) ⟨Nat.le_of_ble_eq_true rfl, Nat.le_of_ble_eq_true rfl⟩) rfl hl.1 rfl (Nat.le_of_ble_eq_true rfl) dX9_clock_1 ⟨Nat.le_of_ble_eq_true rfl, Nat.le_of_ble_eq_true rfl⟩) hW (fun r_3 L_1 h_2 H locs p_4 hW => ?_)
  obtain ⟨hr_5, hT, hs⟩ := p_4
  replace hT : hx_T T_tb L_1 h_2 := hT
  replace hs : hx_S T_tb [] L h L_1 h_2 := hs
  replace f_x_2 := (hs.o (gx.S hM) trivial rfl).1.trans f_x_2
  replace hM := hM.tr (hs.mono ?o0)
  case o0 => decide
  refine hb_if_eq (zx := r_3.toInt) (tgt := 15) hx hb rfl dX9_clock_4 ?o1 (fun c_6 => ?_) (fun c_6 => ?_)
  case o1 => decide
  · skip
    replace hr_5 := hr_5.resolve_right (fun z9 => absurd (c_6.symm.trans z9.1) ?o2)
    case o2 => decide
    replace hr_5 := hr_5.2
    refine lv_iconst (v := 0) hx hb dX9_clock_15 ?o3 ?_
    case o3 => decide
    exact hx_retz hx hb hr rfl hlk hW ⟨⟨now0, f_x_2, (by have zr : (0 : Int32).toInt = 0 := (by decide); exact ⟨by omega, fun _ => ⟨by omega, rfl⟩, fun z => absurd z (by decide)⟩)⟩, hT, hM⟩ dX9_clock_16
  · skip
    replace hr_5 := hr_5.resolve_left (fun z9 => c_6 z9.1)
    replace c_6 := hr_5.1
    replace hr_5 := hr_5.2
    refine lv_iload_n hx hb dX9_clock_7 rfl (lv_at hl 1 rfl) ?_
    refine lv_aload_n hx hb dX9_clock_8 rfl (lv_at hl 0 rfl) ?_
    refine hk_geti hx hb hts hC_9 hown hW (gx.S hM) tt_9 2 ?o4 rfl kw_366 ⟨rfl, rfl, rfl⟩ f_x_2 dX9_clock_9 ?_
    case o4 => decide
    refine hb_icmp_ge (zx := i1.toInt) (zy := now0.toInt) (tgt := 17) hx hb rfl rfl dX9_clock_12 ?o5 (fun c_7 => ?_) (fun c_7 => ?_)
    case o5 => decide
    · skip
      refine lv_aload_n hx hb dX9_clock_17 rfl (lv_at hl 0 rfl) ?_
      refine lv_iload_n hx hb dX9_clock_18 rfl (lv_at hl 1 rfl) ?_
      refine hx_puti hx hb hts hC_9 hown hW hT (hx_S.rf (M := [(9, 2)])) (gx.S hM) tt_9 2 ?o6 rfl kw_366 ⟨rfl, rfl, rfl⟩ rfl (x := i1) ⟨?o7, ?o8⟩ rfl rfl rfl (List.mem_singleton.mpr rfl) dX9_clock_19 (fun H locs h_8 eh_8 hW hT hs => ?_)
      case o6 => decide
      case o7 => omega
      case o8 => omega
      replace hM := hM.tr (hs.mono ?o9)
      case o9 => decide
      have f_9 : h_8.2.1 x 2 = i1 := ?o10
      case o10 =>
        rw [eh_8]
        exact hx_pi_at _ _ _ _
      refine lv_iconst (v := 1) hx hb dX9_clock_22 ?o11 ?_
      case o11 => decide
      exact hx_retz hx hb hr rfl hlk hW ⟨⟨i1, f_9, (by have zr : (1 : Int32).toInt = 1 := (by decide); exact ⟨by omega, fun z => absurd z (by decide), fun _ => ⟨by omega, by omega, rfl⟩⟩)⟩, hT, hM⟩ dX9_clock_23
    · skip
      refine lv_iconst (v := 0) hx hb dX9_clock_15 ?o12 ?_
      case o12 => decide
      exact hx_retz hx hb hr rfl hlk hW ⟨⟨now0, f_x_2, (by have zr : (0 : Int32).toInt = 0 := (by decide); exact ⟨by omega, fun _ => ⟨by omega, rfl⟩, fun z => absurd z (by decide)⟩)⟩, hT, hM⟩ dX9_clock_16
end
section
def wNX9_act : Nat := 221446469973821643551480253479171646754978721631333843896718012185794714899837288530278329910846354831785205489431269632045186849256324441685273331767250282187413214627563203363563219922796973409736873132209194
theorem wX9_act_c : hz_cd cX9_act wNX9_act 87 := ⟨by decide +kernel, by decide +kernel⟩
theorem dX9_act_0 : decode cX9_act 0 = .ok (.aload_n 0, 1) := dw_42 wX9_act_c rfl
theorem dX9_act_1 : decode cX9_act 1 = .ok (.getfield 105, 3) := dw_180 wX9_act_c 0 105 rfl rfl
theorem dX9_act_4 : decode cX9_act 4 = .ok (.bipush 8, 2) := dw_16 wX9_act_c 8 rfl rfl rfl
theorem dX9_act_6 : decode cX9_act 6 = .ok (.if_icmp .ge 10, 3) := dw_162 wX9_act_c 0 10 rfl rfl rfl
theorem dX9_act_9 : decode cX9_act 9 = .ok (.iload_n 1, 1) := dw_27 wX9_act_c rfl
theorem dX9_act_10 : decode cX9_act 10 = .ok (.invokestatic 90, 3) := dw_184 wX9_act_c 0 90 rfl rfl
theorem dX9_act_13 : decode cX9_act 13 = .ok (.ifCond .ne 5, 3) := dw_154 wX9_act_c 0 5 rfl rfl rfl
theorem dX9_act_16 : decode cX9_act 16 = .ok (.iconst (-1), 1) := dw_2 wX9_act_c rfl
theorem dX9_act_17 : decode cX9_act 17 = .ok (.ireturn, 1) := dw_172 wX9_act_c rfl
theorem dX9_act_18 : decode cX9_act 18 = .ok (.new 20, 3) := dw_187 wX9_act_c 0 20 rfl rfl
theorem dX9_act_21 : decode cX9_act 21 = .ok (.dup, 1) := dw_89 wX9_act_c rfl
theorem dX9_act_22 : decode cX9_act 22 = .ok (.aload_n 0, 1) := dw_42 wX9_act_c rfl
theorem dX9_act_23 : decode cX9_act 23 = .ok (.getfield 105, 3) := dw_180 wX9_act_c 0 105 rfl rfl
theorem dX9_act_26 : decode cX9_act 26 = .ok (.iload_n 1, 1) := dw_27 wX9_act_c rfl
theorem dX9_act_27 : decode cX9_act 27 = .ok (.invokespecial 22, 3) := dw_183 wX9_act_c 0 22 rfl rfl
theorem dX9_act_30 : decode cX9_act 30 = .ok (.astore_n 2, 1) := dw_77 wX9_act_c rfl
theorem dX9_act_31 : decode cX9_act 31 = .ok (.aload_n 0, 1) := dw_42 wX9_act_c rfl
theorem dX9_act_32 : decode cX9_act 32 = .ok (.getfield 16, 3) := dw_180 wX9_act_c 0 16 rfl rfl
theorem dX9_act_35 : decode cX9_act 35 = .ok (.aload_n 0, 1) := dw_42 wX9_act_c rfl
theorem dX9_act_36 : decode cX9_act 36 = .ok (.getfield 9, 3) := dw_180 wX9_act_c 0 9 rfl rfl
theorem dX9_act_39 : decode cX9_act 39 = .ok (.aload_n 0, 1) := dw_42 wX9_act_c rfl
theorem dX9_act_40 : decode cX9_act 40 = .ok (.getfield 98, 3) := dw_180 wX9_act_c 0 98 rfl rfl
theorem dX9_act_43 : decode cX9_act 43 = .ok (.aload_n 2, 1) := dw_44 wX9_act_c rfl
theorem dX9_act_44 : decode cX9_act 44 = .ok (.invokevirtual 108, 3) := dw_182 wX9_act_c 0 108 rfl rfl
theorem dX9_act_47 : decode cX9_act 47 = .ok (.istore_n 3, 1) := dw_62 wX9_act_c rfl
theorem dX9_act_48 : decode cX9_act 48 = .ok (.aload_n 0, 1) := dw_42 wX9_act_c rfl
theorem dX9_act_49 : decode cX9_act 49 = .ok (.iconst 0, 1) := dw_3 wX9_act_c rfl
theorem dX9_act_50 : decode cX9_act 50 = .ok (.putfield 98, 3) := dw_181 wX9_act_c 0 98 rfl rfl
theorem dX9_act_53 : decode cX9_act 53 = .ok (.iload_n 3, 1) := dw_29 wX9_act_c rfl
theorem dX9_act_54 : decode cX9_act 54 = .ok (.ifCond .eq 8, 3) := dw_153 wX9_act_c 0 8 rfl rfl rfl
theorem dX9_act_57 : decode cX9_act 57 = .ok (.bipush (-2), 2) := dn_16 wX9_act_c 254 rfl (by decide)
theorem dX9_act_59 : decode cX9_act 59 = .ok (.iload_n 3, 1) := dw_29 wX9_act_c rfl
theorem dX9_act_60 : decode cX9_act 60 = .ok (.isub, 1) := dw_100 wX9_act_c rfl
theorem dX9_act_61 : decode cX9_act 61 = .ok (.ireturn, 1) := dw_172 wX9_act_c rfl
theorem dX9_act_62 : decode cX9_act 62 = .ok (.aload_n 0, 1) := dw_42 wX9_act_c rfl
theorem dX9_act_63 : decode cX9_act 63 = .ok (.getfield 29, 3) := dw_180 wX9_act_c 0 29 rfl rfl
theorem dX9_act_66 : decode cX9_act 66 = .ok (.aload_n 0, 1) := dw_42 wX9_act_c rfl
theorem dX9_act_67 : decode cX9_act 67 = .ok (.getfield 105, 3) := dw_180 wX9_act_c 0 105 rfl rfl
theorem dX9_act_70 : decode cX9_act 70 = .ok (.aload_n 2, 1) := dw_44 wX9_act_c rfl
theorem dX9_act_71 : decode cX9_act 71 = .ok (.aastore, 1) := dw_83 wX9_act_c rfl
theorem dX9_act_72 : decode cX9_act 72 = .ok (.aload_n 0, 1) := dw_42 wX9_act_c rfl
theorem dX9_act_73 : decode cX9_act 73 = .ok (.dup, 1) := dw_89 wX9_act_c rfl
theorem dX9_act_74 : decode cX9_act 74 = .ok (.getfield 105, 3) := dw_180 wX9_act_c 0 105 rfl rfl
theorem dX9_act_77 : decode cX9_act 77 = .ok (.iconst 1, 1) := dw_4 wX9_act_c rfl
theorem dX9_act_78 : decode cX9_act 78 = .ok (.iadd, 1) := dw_96 wX9_act_c rfl
theorem dX9_act_79 : decode cX9_act 79 = .ok (.putfield 105, 3) := dw_181 wX9_act_c 0 105 rfl rfl
theorem dX9_act_82 : decode cX9_act 82 = .ok (.aload_n 2, 1) := dw_44 wX9_act_c rfl
theorem dX9_act_83 : decode cX9_act 83 = .ok (.getfield 112, 3) := dw_180 wX9_act_c 0 112 rfl rfl
theorem dX9_act_86 : decode cX9_act 86 = .ok (.ireturn, 1) := dw_172 wX9_act_c rfl
def wNX9_file : Nat := 1626747674203070265234974778344949019153818279902001863127944570351021296070600194704902546843972326601679705475981575404159709095800674695779159476034485395399137975421427143194565070106116267173934679239115921860733232900306677578299346431239262988974674749374569266243848154222703559832927537312134103036415878083984014458289131332848552916777826052579725773513575767130138665928804562380955621514998988898954858740478300686795611055625403467731874622905654058
theorem wX9_file_c : hz_cd cX9_file wNX9_file 192 := ⟨by decide +kernel, by decide +kernel⟩
theorem dX9_file_0 : decode cX9_file 0 = .ok (.aload_n 0, 1) := dw_42 wX9_file_c rfl
theorem dX9_file_1 : decode cX9_file 1 = .ok (.iload_n 1, 1) := dw_27 wX9_file_c rfl
theorem dX9_file_2 : decode cX9_file 2 = .ok (.invokevirtual 144, 3) := dw_182 wX9_file_c 0 144 rfl rfl
theorem dX9_file_5 : decode cX9_file 5 = .ok (.astore 7, 2) := dw_58 wX9_file_c 7 rfl
theorem dX9_file_7 : decode cX9_file 7 = .ok (.aload_n 0, 1) := dw_42 wX9_file_c rfl
theorem dX9_file_8 : decode cX9_file 8 = .ok (.iload_n 2, 1) := dw_28 wX9_file_c rfl
theorem dX9_file_9 : decode cX9_file 9 = .ok (.invokevirtual 144, 3) := dw_182 wX9_file_c 0 144 rfl rfl
theorem dX9_file_12 : decode cX9_file 12 = .ok (.astore 8, 2) := dw_58 wX9_file_c 8 rfl
theorem dX9_file_14 : decode cX9_file 14 = .ok (.aload_n 0, 1) := dw_42 wX9_file_c rfl
theorem dX9_file_15 : decode cX9_file 15 = .ok (.getfield 181, 3) := dw_180 wX9_file_c 0 181 rfl rfl
theorem dX9_file_18 : decode cX9_file 18 = .ok (.bipush 100, 2) := dw_16 wX9_file_c 100 rfl rfl rfl
theorem dX9_file_20 : decode cX9_file 20 = .ok (.if_icmp .ge 61, 3) := dw_162 wX9_file_c 0 61 rfl rfl rfl
theorem dX9_file_23 : decode cX9_file 23 = .ok (.aload 7, 2) := dw_25 wX9_file_c 7 rfl
theorem dX9_file_25 : decode cX9_file 25 = .ok (.ifnull 56, 3) := dw_198 wX9_file_c 0 56 rfl rfl rfl
theorem dX9_file_28 : decode cX9_file 28 = .ok (.aload 8, 2) := dw_25 wX9_file_c 8 rfl
theorem dX9_file_30 : decode cX9_file 30 = .ok (.ifnull 51, 3) := dw_198 wX9_file_c 0 51 rfl rfl rfl
theorem dX9_file_33 : decode cX9_file 33 = .ok (.iload_n 1, 1) := dw_27 wX9_file_c rfl
theorem dX9_file_34 : decode cX9_file 34 = .ok (.iload_n 2, 1) := dw_28 wX9_file_c rfl
theorem dX9_file_35 : decode cX9_file 35 = .ok (.if_icmp .eq 46, 3) := dw_159 wX9_file_c 0 46 rfl rfl rfl
theorem dX9_file_38 : decode cX9_file 38 = .ok (.aload 8, 2) := dw_25 wX9_file_c 8 rfl
theorem dX9_file_40 : decode cX9_file 40 = .ok (.getfield 148, 3) := dw_180 wX9_file_c 0 148 rfl rfl
theorem dX9_file_43 : decode cX9_file 43 = .ok (.ifCond .ne 38, 3) := dw_154 wX9_file_c 0 38 rfl rfl rfl
theorem dX9_file_46 : decode cX9_file 46 = .ok (.iload_n 3, 1) := dw_29 wX9_file_c rfl
theorem dX9_file_47 : decode cX9_file 47 = .ok (.iconst 1, 1) := dw_4 wX9_file_c rfl
theorem dX9_file_48 : decode cX9_file 48 = .ok (.sipush 9999, 3) := dw_17 wX9_file_c 39 15 rfl rfl rfl
theorem dX9_file_51 : decode cX9_file 51 = .ok (.invokestatic 128, 3) := dw_184 wX9_file_c 0 128 rfl rfl
theorem dX9_file_54 : decode cX9_file 54 = .ok (.ifCond .eq 27, 3) := dw_153 wX9_file_c 0 27 rfl rfl rfl
theorem dX9_file_57 : decode cX9_file 57 = .ok (.iload 4, 2) := dw_21 wX9_file_c 4 rfl
theorem dX9_file_59 : decode cX9_file 59 = .ok (.iconst 0, 1) := dw_3 wX9_file_c rfl
theorem dX9_file_60 : decode cX9_file 60 = .ok (.aload_n 0, 1) := dw_42 wX9_file_c rfl
theorem dX9_file_61 : decode cX9_file 61 = .ok (.getfield 94, 3) := dw_180 wX9_file_c 0 94 rfl rfl
theorem dX9_file_64 : decode cX9_file 64 = .ok (.invokestatic 128, 3) := dw_184 wX9_file_c 0 128 rfl rfl
theorem dX9_file_67 : decode cX9_file 67 = .ok (.ifCond .eq 14, 3) := dw_153 wX9_file_c 0 14 rfl rfl rfl
theorem dX9_file_70 : decode cX9_file 70 = .ok (.iload 6, 2) := dw_21 wX9_file_c 6 rfl
theorem dX9_file_72 : decode cX9_file 72 = .ok (.iconst 0, 1) := dw_3 wX9_file_c rfl
theorem dX9_file_73 : decode cX9_file 73 = .ok (.bipush 9, 2) := dw_16 wX9_file_c 9 rfl rfl rfl
theorem dX9_file_75 : decode cX9_file 75 = .ok (.invokestatic 128, 3) := dw_184 wX9_file_c 0 128 rfl rfl
theorem dX9_file_78 : decode cX9_file 78 = .ok (.ifCond .ne 5, 3) := dw_154 wX9_file_c 0 5 rfl rfl rfl
theorem dX9_file_81 : decode cX9_file 81 = .ok (.iconst (-1), 1) := dw_2 wX9_file_c rfl
theorem dX9_file_82 : decode cX9_file 82 = .ok (.ireturn, 1) := dw_172 wX9_file_c rfl
theorem dX9_file_83 : decode cX9_file 83 = .ok (.new 46, 3) := dw_187 wX9_file_c 0 46 rfl rfl
theorem dX9_file_86 : decode cX9_file 86 = .ok (.dup, 1) := dw_89 wX9_file_c rfl
theorem dX9_file_87 : decode cX9_file 87 = .ok (.aload_n 0, 1) := dw_42 wX9_file_c rfl
theorem dX9_file_88 : decode cX9_file 88 = .ok (.getfield 181, 3) := dw_180 wX9_file_c 0 181 rfl rfl
theorem dX9_file_91 : decode cX9_file 91 = .ok (.aload 7, 2) := dw_25 wX9_file_c 7 rfl
theorem dX9_file_93 : decode cX9_file 93 = .ok (.aload 8, 2) := dw_25 wX9_file_c 8 rfl
theorem dX9_file_95 : decode cX9_file 95 = .ok (.aload_n 0, 1) := dw_42 wX9_file_c rfl
theorem dX9_file_96 : decode cX9_file 96 = .ok (.aload_n 0, 1) := dw_42 wX9_file_c rfl
theorem dX9_file_97 : decode cX9_file 97 = .ok (.getfield 94, 3) := dw_180 wX9_file_c 0 94 rfl rfl
theorem dX9_file_100 : decode cX9_file 100 = .ok (.invokevirtual 115, 3) := dw_182 wX9_file_c 0 115 rfl rfl
theorem dX9_file_103 : decode cX9_file 103 = .ok (.invokespecial 184, 3) := dw_183 wX9_file_c 0 184 rfl rfl
theorem dX9_file_106 : decode cX9_file 106 = .ok (.astore 9, 2) := dw_58 wX9_file_c 9 rfl
theorem dX9_file_108 : decode cX9_file 108 = .ok (.aload 9, 2) := dw_25 wX9_file_c 9 rfl
theorem dX9_file_110 : decode cX9_file 110 = .ok (.iload_n 3, 1) := dw_29 wX9_file_c rfl
theorem dX9_file_111 : decode cX9_file 111 = .ok (.putfield 187, 3) := dw_181 wX9_file_c 0 187 rfl rfl
theorem dX9_file_114 : decode cX9_file 114 = .ok (.aload 9, 2) := dw_25 wX9_file_c 9 rfl
theorem dX9_file_116 : decode cX9_file 116 = .ok (.iload 4, 2) := dw_21 wX9_file_c 4 rfl
theorem dX9_file_118 : decode cX9_file 118 = .ok (.putfield 190, 3) := dw_181 wX9_file_c 0 190 rfl rfl
theorem dX9_file_121 : decode cX9_file 121 = .ok (.aload 9, 2) := dw_25 wX9_file_c 9 rfl
theorem dX9_file_123 : decode cX9_file 123 = .ok (.aload_n 0, 1) := dw_42 wX9_file_c rfl
theorem dX9_file_124 : decode cX9_file 124 = .ok (.getfield 94, 3) := dw_180 wX9_file_c 0 94 rfl rfl
theorem dX9_file_127 : decode cX9_file 127 = .ok (.putfield 193, 3) := dw_181 wX9_file_c 0 193 rfl rfl
theorem dX9_file_130 : decode cX9_file 130 = .ok (.aload 9, 2) := dw_25 wX9_file_c 9 rfl
theorem dX9_file_132 : decode cX9_file 132 = .ok (.getfield 196, 3) := dw_180 wX9_file_c 0 196 rfl rfl
theorem dX9_file_135 : decode cX9_file 135 = .ok (.iconst 2, 1) := dw_5 wX9_file_c rfl
theorem dX9_file_136 : decode cX9_file 136 = .ok (.iload 5, 2) := dw_21 wX9_file_c 5 rfl
theorem dX9_file_138 : decode cX9_file 138 = .ok (.ifCond .eq 7, 3) := dw_153 wX9_file_c 0 7 rfl rfl rfl
theorem dX9_file_141 : decode cX9_file 141 = .ok (.iconst 1, 1) := dw_4 wX9_file_c rfl
theorem dX9_file_142 : decode cX9_file 142 = .ok (.goto 4, 3) := dw_167 wX9_file_c 0 4 rfl rfl rfl
theorem dX9_file_145 : decode cX9_file 145 = .ok (.iconst 0, 1) := dw_3 wX9_file_c rfl
theorem dX9_file_146 : decode cX9_file 146 = .ok (.iastore, 1) := dw_79 wX9_file_c rfl
theorem dX9_file_147 : decode cX9_file 147 = .ok (.aload 9, 2) := dw_25 wX9_file_c 9 rfl
theorem dX9_file_149 : decode cX9_file 149 = .ok (.getfield 196, 3) := dw_180 wX9_file_c 0 196 rfl rfl
theorem dX9_file_152 : decode cX9_file 152 = .ok (.iconst 3, 1) := dw_6 wX9_file_c rfl
theorem dX9_file_153 : decode cX9_file 153 = .ok (.iload 6, 2) := dw_21 wX9_file_c 6 rfl
theorem dX9_file_155 : decode cX9_file 155 = .ok (.iastore, 1) := dw_79 wX9_file_c rfl
theorem dX9_file_156 : decode cX9_file 156 = .ok (.aload 9, 2) := dw_25 wX9_file_c 9 rfl
theorem dX9_file_158 : decode cX9_file 158 = .ok (.getfield 196, 3) := dw_180 wX9_file_c 0 196 rfl rfl
theorem dX9_file_161 : decode cX9_file 161 = .ok (.bipush 7, 2) := dw_16 wX9_file_c 7 rfl rfl rfl
theorem dX9_file_163 : decode cX9_file 163 = .ok (.iload_n 3, 1) := dw_29 wX9_file_c rfl
theorem dX9_file_164 : decode cX9_file 164 = .ok (.iastore, 1) := dw_79 wX9_file_c rfl
theorem dX9_file_165 : decode cX9_file 165 = .ok (.aload_n 0, 1) := dw_42 wX9_file_c rfl
theorem dX9_file_166 : decode cX9_file 166 = .ok (.getfield 48, 3) := dw_180 wX9_file_c 0 48 rfl rfl
theorem dX9_file_169 : decode cX9_file 169 = .ok (.aload_n 0, 1) := dw_42 wX9_file_c rfl
theorem dX9_file_170 : decode cX9_file 170 = .ok (.getfield 181, 3) := dw_180 wX9_file_c 0 181 rfl rfl
theorem dX9_file_173 : decode cX9_file 173 = .ok (.aload 9, 2) := dw_25 wX9_file_c 9 rfl
theorem dX9_file_175 : decode cX9_file 175 = .ok (.aastore, 1) := dw_83 wX9_file_c rfl
theorem dX9_file_176 : decode cX9_file 176 = .ok (.aload_n 0, 1) := dw_42 wX9_file_c rfl
theorem dX9_file_177 : decode cX9_file 177 = .ok (.dup, 1) := dw_89 wX9_file_c rfl
theorem dX9_file_178 : decode cX9_file 178 = .ok (.getfield 181, 3) := dw_180 wX9_file_c 0 181 rfl rfl
theorem dX9_file_181 : decode cX9_file 181 = .ok (.iconst 1, 1) := dw_4 wX9_file_c rfl
theorem dX9_file_182 : decode cX9_file 182 = .ok (.iadd, 1) := dw_96 wX9_file_c rfl
theorem dX9_file_183 : decode cX9_file 183 = .ok (.putfield 181, 3) := dw_181 wX9_file_c 0 181 rfl rfl
theorem dX9_file_186 : decode cX9_file 186 = .ok (.aload 9, 2) := dw_25 wX9_file_c 9 rfl
theorem dX9_file_188 : decode cX9_file 188 = .ok (.getfield 199, 3) := dw_180 wX9_file_c 0 199 rfl rfl
theorem dX9_file_191 : decode cX9_file 191 = .ok (.ireturn, 1) := dw_172 wX9_file_c rfl
def wNX8_putOnList : Nat := 2870520772015958451680221803596881991909124933716795290266662712556726157339761989614160385776348758561185411718996126840584790502688667566896464635043270831302652945037202282296362
theorem wX8_putOnList_c : hz_cd cX8_putOnList wNX8_putOnList 75 := ⟨by decide +kernel, by decide +kernel⟩
theorem dX8_putOnList_0 : decode cX8_putOnList 0 = .ok (.aload_n 0, 1) := dw_42 wX8_putOnList_c rfl
theorem dX8_putOnList_1 : decode cX8_putOnList 1 = .ok (.getfield 24, 3) := dw_180 wX8_putOnList_c 0 24 rfl rfl
theorem dX8_putOnList_4 : decode cX8_putOnList 4 = .ok (.bipush 8, 2) := dw_16 wX8_putOnList_c 8 rfl rfl rfl
theorem dX8_putOnList_6 : decode cX8_putOnList 6 = .ok (.if_icmp .lt 4, 3) := dw_161 wX8_putOnList_c 0 4 rfl rfl rfl
theorem dX8_putOnList_10 : decode cX8_putOnList 10 = .ok (.aload_n 0, 1) := dw_42 wX8_putOnList_c rfl
theorem dX8_putOnList_11 : decode cX8_putOnList 11 = .ok (.getfield 24, 3) := dw_180 wX8_putOnList_c 0 24 rfl rfl
theorem dX8_putOnList_14 : decode cX8_putOnList 14 = .ok (.istore_n 2, 1) := dw_61 wX8_putOnList_c rfl
theorem dX8_putOnList_15 : decode cX8_putOnList 15 = .ok (.iload_n 2, 1) := dw_28 wX8_putOnList_c rfl
theorem dX8_putOnList_16 : decode cX8_putOnList 16 = .ok (.ifCond .le 41, 3) := dw_158 wX8_putOnList_c 0 41 rfl rfl rfl
theorem dX8_putOnList_19 : decode cX8_putOnList 19 = .ok (.aload_n 0, 1) := dw_42 wX8_putOnList_c rfl
theorem dX8_putOnList_20 : decode cX8_putOnList 20 = .ok (.getfield 17, 3) := dw_180 wX8_putOnList_c 0 17 rfl rfl
theorem dX8_putOnList_23 : decode cX8_putOnList 23 = .ok (.iload_n 2, 1) := dw_28 wX8_putOnList_c rfl
theorem dX8_putOnList_24 : decode cX8_putOnList 24 = .ok (.iconst 1, 1) := dw_4 wX8_putOnList_c rfl
theorem dX8_putOnList_25 : decode cX8_putOnList 25 = .ok (.isub, 1) := dw_100 wX8_putOnList_c rfl
theorem dX8_putOnList_26 : decode cX8_putOnList 26 = .ok (.aaload, 1) := dw_50 wX8_putOnList_c rfl
theorem dX8_putOnList_27 : decode cX8_putOnList 27 = .ok (.getfield 28, 3) := dw_180 wX8_putOnList_c 0 28 rfl rfl
theorem dX8_putOnList_30 : decode cX8_putOnList 30 = .ok (.aload_n 1, 1) := dw_43 wX8_putOnList_c rfl
theorem dX8_putOnList_31 : decode cX8_putOnList 31 = .ok (.getfield 28, 3) := dw_180 wX8_putOnList_c 0 28 rfl rfl
theorem dX8_putOnList_34 : decode cX8_putOnList 34 = .ok (.if_icmp .le 23, 3) := dw_164 wX8_putOnList_c 0 23 rfl rfl rfl
theorem dX8_putOnList_37 : decode cX8_putOnList 37 = .ok (.aload_n 0, 1) := dw_42 wX8_putOnList_c rfl
theorem dX8_putOnList_38 : decode cX8_putOnList 38 = .ok (.getfield 17, 3) := dw_180 wX8_putOnList_c 0 17 rfl rfl
theorem dX8_putOnList_41 : decode cX8_putOnList 41 = .ok (.iload_n 2, 1) := dw_28 wX8_putOnList_c rfl
theorem dX8_putOnList_42 : decode cX8_putOnList 42 = .ok (.aload_n 0, 1) := dw_42 wX8_putOnList_c rfl
theorem dX8_putOnList_43 : decode cX8_putOnList 43 = .ok (.getfield 17, 3) := dw_180 wX8_putOnList_c 0 17 rfl rfl
theorem dX8_putOnList_46 : decode cX8_putOnList 46 = .ok (.iload_n 2, 1) := dw_28 wX8_putOnList_c rfl
theorem dX8_putOnList_47 : decode cX8_putOnList 47 = .ok (.iconst 1, 1) := dw_4 wX8_putOnList_c rfl
theorem dX8_putOnList_48 : decode cX8_putOnList 48 = .ok (.isub, 1) := dw_100 wX8_putOnList_c rfl
theorem dX8_putOnList_49 : decode cX8_putOnList 49 = .ok (.aaload, 1) := dw_50 wX8_putOnList_c rfl
theorem dX8_putOnList_50 : decode cX8_putOnList 50 = .ok (.aastore, 1) := dw_83 wX8_putOnList_c rfl
theorem dX8_putOnList_51 : decode cX8_putOnList 51 = .ok (.iinc 2 (-1), 3) := dn_132 wX8_putOnList_c 2 255 rfl (by decide)
theorem dX8_putOnList_54 : decode cX8_putOnList 54 = .ok (.goto (-39), 3) := dn_167 wX8_putOnList_c 255 217 rfl (by decide)
theorem dX8_putOnList_57 : decode cX8_putOnList 57 = .ok (.aload_n 0, 1) := dw_42 wX8_putOnList_c rfl
theorem dX8_putOnList_58 : decode cX8_putOnList 58 = .ok (.getfield 17, 3) := dw_180 wX8_putOnList_c 0 17 rfl rfl
theorem dX8_putOnList_61 : decode cX8_putOnList 61 = .ok (.iload_n 2, 1) := dw_28 wX8_putOnList_c rfl
theorem dX8_putOnList_62 : decode cX8_putOnList 62 = .ok (.aload_n 1, 1) := dw_43 wX8_putOnList_c rfl
theorem dX8_putOnList_63 : decode cX8_putOnList 63 = .ok (.aastore, 1) := dw_83 wX8_putOnList_c rfl
theorem dX8_putOnList_64 : decode cX8_putOnList 64 = .ok (.aload_n 0, 1) := dw_42 wX8_putOnList_c rfl
theorem dX8_putOnList_65 : decode cX8_putOnList 65 = .ok (.dup, 1) := dw_89 wX8_putOnList_c rfl
theorem dX8_putOnList_66 : decode cX8_putOnList 66 = .ok (.getfield 24, 3) := dw_180 wX8_putOnList_c 0 24 rfl rfl
theorem dX8_putOnList_69 : decode cX8_putOnList 69 = .ok (.iconst 1, 1) := dw_4 wX8_putOnList_c rfl
theorem dX8_putOnList_70 : decode cX8_putOnList 70 = .ok (.iadd, 1) := dw_96 wX8_putOnList_c rfl
theorem dX8_putOnList_71 : decode cX8_putOnList 71 = .ok (.putfield 24, 3) := dw_181 wX8_putOnList_c 0 24 rfl rfl
theorem dX8_putOnList_74 : decode cX8_putOnList 74 = .ok (.return_, 1) := dw_177 wX8_putOnList_c rfl
def wNX9_list : Nat := 8216325731323636227579525366192848703658631091919725450589020952638217947205755028787937525642047554695328721014040508673149241115203740244778
theorem wX9_list_c : hz_cd cX9_list wNX9_list 59 := ⟨by decide +kernel, by decide +kernel⟩
theorem dX9_list_0 : decode cX9_list 0 = .ok (.aload_n 0, 1) := dw_42 wX9_list_c rfl
theorem dX9_list_1 : decode cX9_list 1 = .ok (.iload_n 1, 1) := dw_27 wX9_list_c rfl
theorem dX9_list_2 : decode cX9_list 2 = .ok (.invokevirtual 200, 3) := dw_182 wX9_list_c 0 200 rfl rfl
theorem dX9_list_5 : decode cX9_list 5 = .ok (.astore_n 2, 1) := dw_77 wX9_list_c rfl
theorem dX9_list_6 : decode cX9_list 6 = .ok (.aload_n 2, 1) := dw_44 wX9_list_c rfl
theorem dX9_list_7 : decode cX9_list 7 = .ok (.ifnull 34, 3) := dw_198 wX9_list_c 0 34 rfl rfl rfl
theorem dX9_list_10 : decode cX9_list 10 = .ok (.aload_n 2, 1) := dw_44 wX9_list_c rfl
theorem dX9_list_11 : decode cX9_list 11 = .ok (.getfield 204, 3) := dw_180 wX9_list_c 0 204 rfl rfl
theorem dX9_list_14 : decode cX9_list 14 = .ok (.iconst (-1), 1) := dw_2 wX9_list_c rfl
theorem dX9_list_15 : decode cX9_list 15 = .ok (.if_icmp .ne 26, 3) := dw_160 wX9_list_c 0 26 rfl rfl rfl
theorem dX9_list_18 : decode cX9_list 18 = .ok (.aload_n 0, 1) := dw_42 wX9_list_c rfl
theorem dX9_list_19 : decode cX9_list 19 = .ok (.getfield 86, 3) := dw_180 wX9_list_c 0 86 rfl rfl
theorem dX9_list_22 : decode cX9_list 22 = .ok (.aload_n 2, 1) := dw_44 wX9_list_c rfl
theorem dX9_list_23 : decode cX9_list 23 = .ok (.invokevirtual 378, 3) := dw_182 wX9_list_c 1 122 rfl rfl
theorem dX9_list_26 : decode cX9_list 26 = .ok (.ifCond .ne 15, 3) := dw_154 wX9_list_c 0 15 rfl rfl rfl
theorem dX9_list_29 : decode cX9_list 29 = .ok (.aload_n 0, 1) := dw_42 wX9_list_c rfl
theorem dX9_list_30 : decode cX9_list 30 = .ok (.getfield 86, 3) := dw_180 wX9_list_c 0 86 rfl rfl
theorem dX9_list_33 : decode cX9_list 33 = .ok (.getfield 381, 3) := dw_180 wX9_list_c 1 125 rfl rfl
theorem dX9_list_36 : decode cX9_list 36 = .ok (.bipush 8, 2) := dw_16 wX9_list_c 8 rfl rfl rfl
theorem dX9_list_38 : decode cX9_list 38 = .ok (.if_icmp .lt 5, 3) := dw_161 wX9_list_c 0 5 rfl rfl rfl
theorem dX9_list_41 : decode cX9_list 41 = .ok (.iconst (-1), 1) := dw_2 wX9_list_c rfl
theorem dX9_list_42 : decode cX9_list 42 = .ok (.ireturn, 1) := dw_172 wX9_list_c rfl
theorem dX9_list_43 : decode cX9_list 43 = .ok (.aload_n 0, 1) := dw_42 wX9_list_c rfl
theorem dX9_list_44 : decode cX9_list 44 = .ok (.getfield 86, 3) := dw_180 wX9_list_c 0 86 rfl rfl
theorem dX9_list_47 : decode cX9_list 47 = .ok (.aload_n 2, 1) := dw_44 wX9_list_c rfl
theorem dX9_list_48 : decode cX9_list 48 = .ok (.invokevirtual 384, 3) := dw_182 wX9_list_c 1 128 rfl rfl
theorem dX9_list_51 : decode cX9_list 51 = .ok (.aload_n 0, 1) := dw_42 wX9_list_c rfl
theorem dX9_list_52 : decode cX9_list 52 = .ok (.getfield 86, 3) := dw_180 wX9_list_c 0 86 rfl rfl
theorem dX9_list_55 : decode cX9_list 55 = .ok (.getfield 381, 3) := dw_180 wX9_list_c 1 125 rfl rfl
theorem dX9_list_58 : decode cX9_list 58 = .ok (.ireturn, 1) := dw_172 wX9_list_c rfl
def wNX9_plan : Nat := 2454044627011695060154424541238290495822731579819271488949325456198735753730435179365274007146244831971265897153261345510645123467661727554342295471135042603909672545392194298050774940435645883786697509543538541281860339902520489403729597792161391032783270392679040679842655316040479329908391323119228703687734393845662197763894896405912362
theorem wX9_plan_c : hz_cd cX9_plan wNX9_plan 141 := ⟨by decide +kernel, by decide +kernel⟩
theorem dX9_plan_0 : decode cX9_plan 0 = .ok (.aload_n 0, 1) := dw_42 wX9_plan_c rfl
theorem dX9_plan_1 : decode cX9_plan 1 = .ok (.iload_n 1, 1) := dw_27 wX9_plan_c rfl
theorem dX9_plan_2 : decode cX9_plan 2 = .ok (.invokevirtual 144, 3) := dw_182 wX9_plan_c 0 144 rfl rfl
theorem dX9_plan_5 : decode cX9_plan 5 = .ok (.astore_n 3, 1) := dw_78 wX9_plan_c rfl
theorem dX9_plan_6 : decode cX9_plan 6 = .ok (.aload_n 3, 1) := dw_45 wX9_plan_c rfl
theorem dX9_plan_7 : decode cX9_plan 7 = .ok (.ifnull 13, 3) := dw_198 wX9_plan_c 0 13 rfl rfl rfl
theorem dX9_plan_10 : decode cX9_plan 10 = .ok (.iload_n 2, 1) := dw_28 wX9_plan_c rfl
theorem dX9_plan_11 : decode cX9_plan 11 = .ok (.iconst 1, 1) := dw_4 wX9_plan_c rfl
theorem dX9_plan_12 : decode cX9_plan 12 = .ok (.bipush 99, 2) := dw_16 wX9_plan_c 99 rfl rfl rfl
theorem dX9_plan_14 : decode cX9_plan 14 = .ok (.invokestatic 128, 3) := dw_184 wX9_plan_c 0 128 rfl rfl
theorem dX9_plan_17 : decode cX9_plan 17 = .ok (.ifCond .ne 5, 3) := dw_154 wX9_plan_c 0 5 rfl rfl rfl
theorem dX9_plan_20 : decode cX9_plan 20 = .ok (.iconst (-1), 1) := dw_2 wX9_plan_c rfl
theorem dX9_plan_21 : decode cX9_plan 21 = .ok (.ireturn, 1) := dw_172 wX9_plan_c rfl
theorem dX9_plan_22 : decode cX9_plan 22 = .ok (.aload_n 0, 1) := dw_42 wX9_plan_c rfl
theorem dX9_plan_23 : decode cX9_plan 23 = .ok (.getfield 72, 3) := dw_180 wX9_plan_c 0 72 rfl rfl
theorem dX9_plan_26 : decode cX9_plan 26 = .ok (.iload_n 2, 1) := dw_28 wX9_plan_c rfl
theorem dX9_plan_27 : decode cX9_plan 27 = .ok (.aload_n 3, 1) := dw_45 wX9_plan_c rfl
theorem dX9_plan_28 : decode cX9_plan 28 = .ok (.aload_n 0, 1) := dw_42 wX9_plan_c rfl
theorem dX9_plan_29 : decode cX9_plan 29 = .ok (.aload_n 0, 1) := dw_42 wX9_plan_c rfl
theorem dX9_plan_30 : decode cX9_plan 30 = .ok (.getfield 94, 3) := dw_180 wX9_plan_c 0 94 rfl rfl
theorem dX9_plan_33 : decode cX9_plan 33 = .ok (.invokevirtual 115, 3) := dw_182 wX9_plan_c 0 115 rfl rfl
theorem dX9_plan_36 : decode cX9_plan 36 = .ok (.invokevirtual 264, 3) := dw_182 wX9_plan_c 1 8 rfl rfl
theorem dX9_plan_39 : decode cX9_plan 39 = .ok (.invokevirtual 323, 3) := dw_182 wX9_plan_c 1 67 rfl rfl
theorem dX9_plan_42 : decode cX9_plan 42 = .ok (.iconst 0, 1) := dw_3 wX9_plan_c rfl
theorem dX9_plan_43 : decode cX9_plan 43 = .ok (.istore 4, 2) := dw_54 wX9_plan_c 4 rfl
theorem dX9_plan_45 : decode cX9_plan 45 = .ok (.iload 4, 2) := dw_21 wX9_plan_c 4 rfl
theorem dX9_plan_47 : decode cX9_plan 47 = .ok (.aload_n 0, 1) := dw_42 wX9_plan_c rfl
theorem dX9_plan_48 : decode cX9_plan 48 = .ok (.getfield 181, 3) := dw_180 wX9_plan_c 0 181 rfl rfl
theorem dX9_plan_51 : decode cX9_plan 51 = .ok (.if_icmp .ge 82, 3) := dw_162 wX9_plan_c 0 82 rfl rfl rfl
theorem dX9_plan_54 : decode cX9_plan 54 = .ok (.aload_n 0, 1) := dw_42 wX9_plan_c rfl
theorem dX9_plan_55 : decode cX9_plan 55 = .ok (.getfield 48, 3) := dw_180 wX9_plan_c 0 48 rfl rfl
theorem dX9_plan_58 : decode cX9_plan 58 = .ok (.iload 4, 2) := dw_21 wX9_plan_c 4 rfl
theorem dX9_plan_60 : decode cX9_plan 60 = .ok (.aaload, 1) := dw_50 wX9_plan_c rfl
theorem dX9_plan_61 : decode cX9_plan 61 = .ok (.astore 5, 2) := dw_58 wX9_plan_c 5 rfl
theorem dX9_plan_63 : decode cX9_plan 63 = .ok (.aload 5, 2) := dw_25 wX9_plan_c 5 rfl
theorem dX9_plan_65 : decode cX9_plan 65 = .ok (.getfield 212, 3) := dw_180 wX9_plan_c 0 212 rfl rfl
theorem dX9_plan_68 : decode cX9_plan 68 = .ok (.aload_n 3, 1) := dw_45 wX9_plan_c rfl
theorem dX9_plan_69 : decode cX9_plan 69 = .ok (.if_acmp .ne 58, 3) := dw_166 wX9_plan_c 0 58 rfl rfl rfl
theorem dX9_plan_72 : decode cX9_plan 72 = .ok (.aload 5, 2) := dw_25 wX9_plan_c 5 rfl
theorem dX9_plan_74 : decode cX9_plan 74 = .ok (.aload_n 0, 1) := dw_42 wX9_plan_c rfl
theorem dX9_plan_75 : decode cX9_plan 75 = .ok (.getfield 58, 3) := dw_180 wX9_plan_c 0 58 rfl rfl
theorem dX9_plan_78 : decode cX9_plan 78 = .ok (.aload_n 0, 1) := dw_42 wX9_plan_c rfl
theorem dX9_plan_79 : decode cX9_plan 79 = .ok (.getfield 94, 3) := dw_180 wX9_plan_c 0 94 rfl rfl
theorem dX9_plan_82 : decode cX9_plan 82 = .ok (.invokevirtual 274, 3) := dw_182 wX9_plan_c 1 18 rfl rfl
theorem dX9_plan_85 : decode cX9_plan 85 = .ok (.ifCond .eq 42, 3) := dw_153 wX9_plan_c 0 42 rfl rfl rfl
theorem dX9_plan_88 : decode cX9_plan 88 = .ok (.aload_n 0, 1) := dw_42 wX9_plan_c rfl
theorem dX9_plan_89 : decode cX9_plan 89 = .ok (.getfield 72, 3) := dw_180 wX9_plan_c 0 72 rfl rfl
theorem dX9_plan_92 : decode cX9_plan 92 = .ok (.getfield 326, 3) := dw_180 wX9_plan_c 1 70 rfl rfl
theorem dX9_plan_95 : decode cX9_plan 95 = .ok (.iconst 4, 1) := dw_7 wX9_plan_c rfl
theorem dX9_plan_96 : decode cX9_plan 96 = .ok (.if_icmp .lt 5, 3) := dw_161 wX9_plan_c 0 5 rfl rfl rfl
theorem dX9_plan_99 : decode cX9_plan 99 = .ok (.iconst (-1), 1) := dw_2 wX9_plan_c rfl
theorem dX9_plan_100 : decode cX9_plan 100 = .ok (.ireturn, 1) := dw_172 wX9_plan_c rfl
theorem dX9_plan_101 : decode cX9_plan 101 = .ok (.aload_n 0, 1) := dw_42 wX9_plan_c rfl
theorem dX9_plan_102 : decode cX9_plan 102 = .ok (.getfield 72, 3) := dw_180 wX9_plan_c 0 72 rfl rfl
theorem dX9_plan_105 : decode cX9_plan 105 = .ok (.aload 5, 2) := dw_25 wX9_plan_c 5 rfl
theorem dX9_plan_107 : decode cX9_plan 107 = .ok (.aload 5, 2) := dw_25 wX9_plan_c 5 rfl
theorem dX9_plan_109 : decode cX9_plan 109 = .ok (.aload_n 0, 1) := dw_42 wX9_plan_c rfl
theorem dX9_plan_110 : decode cX9_plan 110 = .ok (.getfield 58, 3) := dw_180 wX9_plan_c 0 58 rfl rfl
theorem dX9_plan_113 : decode cX9_plan 113 = .ok (.aload_n 0, 1) := dw_42 wX9_plan_c rfl
theorem dX9_plan_114 : decode cX9_plan 114 = .ok (.getfield 94, 3) := dw_180 wX9_plan_c 0 94 rfl rfl
theorem dX9_plan_117 : decode cX9_plan 117 = .ok (.aload_n 0, 1) := dw_42 wX9_plan_c rfl
theorem dX9_plan_118 : decode cX9_plan 118 = .ok (.getfield 94, 3) := dw_180 wX9_plan_c 0 94 rfl rfl
theorem dX9_plan_121 : decode cX9_plan 121 = .ok (.invokevirtual 302, 3) := dw_182 wX9_plan_c 1 46 rfl rfl
theorem dX9_plan_124 : decode cX9_plan 124 = .ok (.invokevirtual 329, 3) := dw_182 wX9_plan_c 1 73 rfl rfl
theorem dX9_plan_127 : decode cX9_plan 127 = .ok (.iinc 4 1, 3) := dw_132 wX9_plan_c 4 1 rfl rfl rfl
theorem dX9_plan_130 : decode cX9_plan 130 = .ok (.goto (-85), 3) := dn_167 wX9_plan_c 255 171 rfl (by decide)
theorem dX9_plan_133 : decode cX9_plan 133 = .ok (.aload_n 0, 1) := dw_42 wX9_plan_c rfl
theorem dX9_plan_134 : decode cX9_plan 134 = .ok (.getfield 72, 3) := dw_180 wX9_plan_c 0 72 rfl rfl
theorem dX9_plan_137 : decode cX9_plan 137 = .ok (.invokevirtual 333, 3) := dw_182 wX9_plan_c 1 77 rfl rfl
theorem dX9_plan_140 : decode cX9_plan 140 = .ok (.ireturn, 1) := dw_172 wX9_plan_c rfl
set_option maxHeartbeats 4000000 in
set_option maxRecDepth 100000 in
theorem t_X9_plan (l : Launch) (dC : Nat → ClassId) (dI : Nat → Nat → Nat) (dA : Nat → ClassId) (L : List Nat) (h : hx_h) (sz : Nat) (b0 : hx_z) (x : Nat) (i1 : Int32) (i2 : Int32) (hT : hx_T T_tb L h) (gx : hx_g L h x 9) (qp : Nat) (gqp : hx_g L h qp 44) (f_x_7 : h.2.2 x 7 = some qp) (qc : Nat) (gqc : hx_g L h qc 45) (f_x_10 : h.2.2 x 10 = some qc) (qa : Nat) (gqa : hx_g L h qa 43) (f_x_5 : h.2.2 x 5 = some qa) (pf_x_8 : ∀ j : Nat, (j : Int) < (h.2.1 x 8).toInt → h.2.2 qp j ≠ none) (pf_x_11 : ∀ j : Nat, (j : Int) < (h.2.1 x 11).toInt → h.2.2 qc j ≠ none) (pf_x_6 : ∀ j : Nat, (j : Int) < (h.2.1 x 6).toInt → h.2.2 qa j ≠ none) : Met l yX9_plan (Cond.code yX9_plan cX9_plan 6 (some .int) :: hx_all) ({ frames := 8, cells := 0, slots := 0, locals := 223 }) (va_Pc [.ref x, .int i1, .int i2] (hx_BX T_tb (P_ty dA) (dC, dI) vwCl L h sz b0)) (va_Qi (fun (r : Int32) (u : List Nat × hx_h) => (True) ∧ hx_T T_tb u.1 u.2 ∧ hx_S T_tb [(5, 0), (5, 1), (5, 9), (5, 10), (5, 11), (5, 12), (27, 0), (28, 0), (29, 0), (30, 0), (31, 0), (32, 0), (33, 0)] L h u.1 u.2) (hx_E T_tb (P_ty dA) (dC, dI) vwCl (hx_A L sz)) (hx_A L sz)) 0 0 (hx_A L sz) := by
  refine hx_metX (lv := [(0, .ref x), (1, .int i1), (2, .int i2)]) (by decide +kernel) rfl (Nat.le_of_ble_eq_true rfl) rfl ?_
  intro p e s m below meth c hx hb hml hr hlk hts0 hown hin hsz hW hZ ls hl
  have hts : ∀ w ∈ hx_all, w.before _ s = true := fun w hw => hts0 w (List.mem_cons_of_mem _ hw)
  have hown : s.vm.findClass "SmallCourt" = some m.cls := hown
  have hM : hx_S T_tb [(5, 0), (5, 1), (5, 9), (5, 10), (5, 11), (5, 12), (27, 0), (28, 0), (29, 0), (30, 0), (31, 0), (32, 0), (33, 0)] L h L h := hx_S.rf
  refine lv_aload_n hx hb dX9_plan_0 rfl (lv_at hl 0 rfl) ?_
  refine lv_iload_n hx hb dX9_plan_1 rfl (lv_at hl 1 rfl) ?_
  refine hx_goq (hx_runV (As := [.int i1]) (rest := []) ⟨hx, hb, hml, hown, hts⟩ hW (gx.S hM) tt_9 (T := TX9) (N := 20) rfl (t_X9_personAt l dC dI dA L h s.heap.size x i1 hT (gx.S hM) qp (gqp.S hM) ((hM.o gx trivial rfl).2.trans f_x_7) pf_x_8) (cwV 1 hts (hx_gV kw_659 kw_656 kw_658 kw_20 kw_94) rfl rfl rfl (by decide +kernel) ⟨Nat.le_of_ble_eq_true rfl, Nat.le_of_ble_eq_true rfl⟩) rfl hl.1 rfl (Nat.le_of_ble_eq_true rfl) dX9_plan_2 ⟨Nat.le_of_ble_eq_true rfl, Nat.le_of_ble_eq_true rfl⟩) hW (fun r_3 L_1 h_2 H locs p_4 hW => ?_)
  obtain ⟨hr_5, hT, hs⟩ := p_4
  replace hT : hx_T T_tb L_1 h_2 := hT
  replace hs : hx_S T_tb [] L h L_1 h_2 := hs
  replace pf_x_8 : ∀ j : Nat, (j : Int) < (h_2.2.1 x 8).toInt → h_2.2.2 qp j ≠ none := by
    intro j hj; rw [(hs.o (gx.S hM) trivial rfl).1] at hj; rw [(hs.a (gqp.S hM) rfl j).2]; exact pf_x_8 j hj
  replace pf_x_11 : ∀ j : Nat, (j : Int) < (h_2.2.1 x 11).toInt → h_2.2.2 qc j ≠ none := by
    intro j hj; rw [(hs.o (gx.S hM) trivial rfl).1] at hj; rw [(hs.a (gqc.S hM) rfl j).2]; exact pf_x_11 j hj
  replace pf_x_6 : ∀ j : Nat, (j : Int) < (h_2.2.1 x 6).toInt → h_2.2.2 qa j ≠ none := by
    intro j hj; rw [(hs.o (gx.S hM) trivial rfl).1] at hj; rw [(hs.a (gqa.S hM) rfl j).2]; exact pf_x_6 j hj
  replace hM := hM.tr (hs.mono ?o0)
  case o0 => decide
  have hr_5 : ∀ q, r_3 = some q → hx_g L_1 h_2 q 4 := hr_5
  rcases r_3 with _ | q_6
  · skip
    refine lv_astore_nN (lv' := [(3, .null), (0, .ref x), (1, .int i1), (2, .int i2)]) hx hb dX9_plan_5 rfl hl ?o1 rfl (fun ls hl => ?_)
    case o1 => decide
    refine lv_aload_nN hx hb dX9_plan_6 rfl (lv_at hl 0 rfl) ?_
    refine lv_ifnullN (tgt := 20) hx hb dX9_plan_7 ?o2 ?_
    case o2 => decide
    refine lv_iconst (v := -1) hx hb dX9_plan_20 ?o3 ?_
    case o3 => decide
    exact hx_reti hx hb hr hlk hW ⟨trivial, hT, hM⟩ dX9_plan_21
  · have gq_6 := hr_5 _ rfl
    refine lv_astore_n (lv' := [(3, .ref q_6), (0, .ref x), (1, .int i1), (2, .int i2)]) hx hb dX9_plan_5 rfl hl ?o4 rfl (fun ls hl => ?_)
    case o4 => decide
    refine lv_aload_n hx hb dX9_plan_6 rfl (lv_at hl 0 rfl) ?_
    refine lv_ifnull hx hb dX9_plan_7 ?_
    refine lv_iload_n hx hb dX9_plan_10 rfl (lv_at hl 3 rfl) ?_
    refine lv_iconst (v := 1) hx hb dX9_plan_11 ?o5 ?_
    case o5 => decide
    refine lv_bipush (v := 99) hx hb dX9_plan_12 ?o6 ?_
    case o6 => decide
    have zc_99 : (99 : Int32).toInt = 99 := ?o7
    case o7 => decide
    have zc_1 : (1 : Int32).toInt = 1 := ?o8
    case o8 => decide
    refine hx_goi (hx_runS (As := [.int i2, .int (1 : Int32), .int (99 : Int32)]) (rest := []) ⟨hx, hb, hml, hown, hts⟩ hW (t_X9_isWithin_2 l dC dI dA L_1 h_2 H.size i2 (1 : Int32) (99 : Int32) hT) (va_cwS 3 hts (hx_gS kw_434 kw_432 kw_433 kw_94) rfl rfl rfl (by decide +kernel) ⟨Nat.le_of_ble_eq_true rfl, Nat.le_of_ble_eq_true rfl⟩) rfl hl.1 rfl (Nat.le_of_ble_eq_true rfl) dX9_plan_14 ⟨Nat.le_of_ble_eq_true rfl, Nat.le_of_ble_eq_true rfl⟩) hW (fun r_9 L_7 h_8 H locs p_10 hW => ?_)
    obtain ⟨hr_11, hT, hs⟩ := p_10
    replace hT : hx_T T_tb L_7 h_8 := hT
    replace hs : hx_S T_tb [] L_1 h_2 L_7 h_8 := hs
    replace pf_x_8 : ∀ j : Nat, (j : Int) < (h_8.2.1 x 8).toInt → h_8.2.2 qp j ≠ none := by
      intro j hj; rw [(hs.o (gx.S hM) trivial rfl).1] at hj; rw [(hs.a (gqp.S hM) rfl j).2]; exact pf_x_8 j hj
    replace pf_x_11 : ∀ j : Nat, (j : Int) < (h_8.2.1 x 11).toInt → h_8.2.2 qc j ≠ none := by
      intro j hj; rw [(hs.o (gx.S hM) trivial rfl).1] at hj; rw [(hs.a (gqc.S hM) rfl j).2]; exact pf_x_11 j hj
    replace pf_x_6 : ∀ j : Nat, (j : Int) < (h_8.2.1 x 6).toInt → h_8.2.2 qa j ≠ none := by
      intro j hj; rw [(hs.o (gx.S hM) trivial rfl).1] at hj; rw [(hs.a (gqa.S hM) rfl j).2]; exact pf_x_6 j hj
    replace hM := hM.tr (hs.mono ?o9)
    case o9 => decide
    replace gq_6 := gq_6.S hs
    refine hb_if_ne (zx := r_9.toInt) (tgt := 22) hx hb rfl dX9_plan_17 ?o10 (fun c_12 => ?_) (fun c_12 => ?_)
    case o10 => decide
    · skip
      replace hr_11 := hr_11.resolve_left (fun z9 => c_12 z9.1)
      replace c_12 := hr_11.1
      replace hr_11 := hr_11.2
      refine lv_aload_n hx hb dX9_plan_22 rfl (lv_at hl 1 rfl) ?_
      refine hx_getn hx hb hts hC_9 hown hW hT (gx.S hM) tt_9 17 ?o11 rfl kw_381 ⟨rfl, rfl, rfl⟩ dX9_plan_23 (fun q_13 fq_13 gq_13 => ?_)
      case o11 => decide
      refine lv_iload_n hx hb dX9_plan_26 rfl (lv_at hl 3 rfl) ?_
      refine lv_aload_n hx hb dX9_plan_27 rfl (lv_at hl 0 rfl) ?_
      refine lv_aload_n hx hb dX9_plan_28 rfl (lv_at hl 1 rfl) ?_
      refine lv_aload_n hx hb dX9_plan_29 rfl (lv_at hl 1 rfl) ?_
      refine hx_geti hx hb hts hC_9 hown hW hT (gx.S hM) tt_9 2 ?o12 rfl kw_366 ⟨rfl, rfl, rfl⟩ dX9_plan_30 (fun x_14 ex_14 lx_14 ux_14 => ?_)
      case o12 => decide
      have fx_14 := ex_14.symm
      refine hx_goq (hx_runV (As := [.int x_14]) (rest := [.ref q_6, .int i2, .ref q_13]) ⟨hx, hb, hml, hown, hts⟩ hW (gx.S hM) tt_9 (T := TX9) (N := 20) rfl (t_X9_inForce l dC dI dA L_7 h_8 H.size x x_14 hT (gx.S hM) qa (gqa.S hM) ((hM.o gx trivial rfl).2.trans f_x_5) pf_x_6) (cwV 1 hts (hx_gV kw_597 kw_594 kw_596 kw_19 kw_94) rfl rfl rfl (by decide +kernel) ⟨Nat.le_of_ble_eq_true rfl, Nat.le_of_ble_eq_true rfl⟩) rfl hl.1 rfl (Nat.le_of_ble_eq_true rfl) dX9_plan_33 ⟨Nat.le_of_ble_eq_true rfl, Nat.le_of_ble_eq_true rfl⟩) hW (fun r_17 L_15 h_16 H locs p_18 hW => ?_)
      obtain ⟨hr_19, hT, hs⟩ := p_18
      replace hT : hx_T T_tb L_15 h_16 := hT
      replace hs : hx_S T_tb [] L_7 h_8 L_15 h_16 := hs
      replace fq_13 := (hs.o (gx.S hM) trivial rfl).2.trans fq_13
      replace fx_14 := (hs.o (gx.S hM) trivial rfl).1.trans fx_14
      replace pf_x_8 : ∀ j : Nat, (j : Int) < (h_16.2.1 x 8).toInt → h_16.2.2 qp j ≠ none := by
        intro j hj; rw [(hs.o (gx.S hM) trivial rfl).1] at hj; rw [(hs.a (gqp.S hM) rfl j).2]; exact pf_x_8 j hj
      replace pf_x_11 : ∀ j : Nat, (j : Int) < (h_16.2.1 x 11).toInt → h_16.2.2 qc j ≠ none := by
        intro j hj; rw [(hs.o (gx.S hM) trivial rfl).1] at hj; rw [(hs.a (gqc.S hM) rfl j).2]; exact pf_x_11 j hj
      replace pf_x_6 : ∀ j : Nat, (j : Int) < (h_16.2.1 x 6).toInt → h_16.2.2 qa j ≠ none := by
        intro j hj; rw [(hs.o (gx.S hM) trivial rfl).1] at hj; rw [(hs.a (gqa.S hM) rfl j).2]; exact pf_x_6 j hj
      replace hM := hM.tr (hs.mono ?o13)
      case o13 => decide
      replace gq_6 := gq_6.S hs
      replace gq_13 := gq_13.S hs
      obtain ⟨q_20, rfl, gq_20⟩ := hr_19
      have gq_20 : hx_g L_15 h_16 q_20 0 := gq_20
      refine hx_goi (hx_runV (As := [.ref q_20]) (rest := [.int i2, .ref q_13]) ⟨hx, hb, hml, hown, hts⟩ hW gq_6 tt_4 (T := TX4) (N := 10) rfl (t_X4_meansBy l dC dI dA L_15 h_16 H.size q_6 q_20 hT gq_6 gq_20) (cwV 1 hts (hx_gV kw_887 kw_884 kw_885 kw_886 kw_108) rfl rfl rfl (by decide +kernel) ⟨Nat.le_of_ble_eq_true rfl, Nat.le_of_ble_eq_true rfl⟩) rfl hl.1 rfl (Nat.le_of_ble_eq_true rfl) dX9_plan_36 ⟨Nat.le_of_ble_eq_true rfl, Nat.le_of_ble_eq_true rfl⟩) hW (fun r_23 L_21 h_22 H locs p_24 hW => ?_)
      obtain ⟨hr_25, hT, hs⟩ := p_24
      replace hT : hx_T T_tb L_21 h_22 := hT
      replace hs : hx_S T_tb [] L_15 h_16 L_21 h_22 := hs
      replace fq_13 := (hs.o (gx.S hM) trivial rfl).2.trans fq_13
      replace fx_14 := (hs.o (gx.S hM) trivial rfl).1.trans fx_14
      replace pf_x_8 : ∀ j : Nat, (j : Int) < (h_22.2.1 x 8).toInt → h_22.2.2 qp j ≠ none := by
        intro j hj; rw [(hs.o (gx.S hM) trivial rfl).1] at hj; rw [(hs.a (gqp.S hM) rfl j).2]; exact pf_x_8 j hj
      replace pf_x_11 : ∀ j : Nat, (j : Int) < (h_22.2.1 x 11).toInt → h_22.2.2 qc j ≠ none := by
        intro j hj; rw [(hs.o (gx.S hM) trivial rfl).1] at hj; rw [(hs.a (gqc.S hM) rfl j).2]; exact pf_x_11 j hj
      replace pf_x_6 : ∀ j : Nat, (j : Int) < (h_22.2.1 x 6).toInt → h_22.2.2 qa j ≠ none := by
        intro j hj; rw [(hs.o (gx.S hM) trivial rfl).1] at hj; rw [(hs.a (gqa.S hM) rfl j).2]; exact pf_x_6 j hj
      replace hM := hM.tr (hs.mono ?o14)
      case o14 => decide
      replace gq_6 := gq_6.S hs
      replace gq_13 := gq_13.S hs
      replace gq_20 := gq_20.S hs
      refine hx_gov (hx_runV (As := [.int i2, .int r_23]) (rest := []) ⟨hx, hb, hml, hown, hts⟩ hW gq_13 tt_5 (T := TX5) (N := 13) rfl (t_X5_clear l dC dI dA L_21 h_22 H.size q_13 i2 r_23 hT gq_13) (cwV 2 hts (hx_gV kw_951 kw_948 kw_949 kw_950 kw_100) rfl rfl rfl (by decide +kernel) ⟨Nat.le_of_ble_eq_true rfl, Nat.le_of_ble_eq_true rfl⟩) rfl hl.1 rfl (Nat.le_of_ble_eq_true rfl) dX9_plan_39 ⟨Nat.le_of_ble_eq_true rfl, Nat.le_of_ble_eq_true rfl⟩) hW (fun L_26 h_27 H locs p_29 hW => ?_)
      obtain ⟨hT, hs⟩ := p_29
      replace hT : hx_T T_tb L_26 h_27 := hT
      replace hs : hx_S T_tb [(5, 0), (5, 9), (5, 10)] L_21 h_22 L_26 h_27 := hs
      replace fq_13 := (hs.o (gx.S hM) trivial rfl).2.trans fq_13
      replace fx_14 := (hs.o (gx.S hM) trivial rfl).1.trans fx_14
      replace pf_x_8 : ∀ j : Nat, (j : Int) < (h_27.2.1 x 8).toInt → h_27.2.2 qp j ≠ none := by
        intro j hj; rw [(hs.o (gx.S hM) trivial rfl).1] at hj; rw [(hs.a (gqp.S hM) rfl j).2]; exact pf_x_8 j hj
      replace pf_x_11 : ∀ j : Nat, (j : Int) < (h_27.2.1 x 11).toInt → h_27.2.2 qc j ≠ none := by
        intro j hj; rw [(hs.o (gx.S hM) trivial rfl).1] at hj; rw [(hs.a (gqc.S hM) rfl j).2]; exact pf_x_11 j hj
      replace pf_x_6 : ∀ j : Nat, (j : Int) < (h_27.2.1 x 6).toInt → h_27.2.2 qa j ≠ none := by
        intro j hj; rw [(hs.o (gx.S hM) trivial rfl).1] at hj; rw [(hs.a (gqa.S hM) rfl j).2]; exact pf_x_6 j hj
      replace hM := hM.tr (hs.mono ?o15)
      case o15 => decide
      replace gq_6 := gq_6.S hs
      replace gq_13 := gq_13.S hs
      replace gq_20 := gq_20.S hs
      refine lv_iconst (v := 0) hx hb dX9_plan_42 ?o16 ?_
      case o16 => decide
      refine lv_istore (lv' := [(4, .int (0 : Int32)), (3, .ref q_6), (0, .ref x), (1, .int i1), (2, .int i2)]) hx hb dX9_plan_43 hl ?o17 rfl (fun ls hl => ?_)
      case o17 => decide
      have loop45 : ∀ (n45 : Nat) (iv45_4 : Int32) (H : Heap) (locs : List Loc) (hL1 : List Nat) (hl1 : hx_h), 0 ≤ iv45_4.toInt → iv45_4.toInt ≤ 100 → ∀ (ls : Array Slot), 100 - iv45_4.toInt < (n45 : Int) → hx_W T_tb (P_ty dA) (dC, dI) vwCl (hx_A L sz) s.heap hL1 hl1 s H locs → hx_T T_tb hL1 hl1 → hx_S T_tb [(5, 0), (5, 1), (5, 9), (5, 10), (5, 11), (5, 12), (27, 0), (28, 0), (29, 0), (30, 0), (31, 0), (32, 0), (33, 0)] L h hL1 hl1 → hl1.2.2 x 17 = some q_13 → hl1.2.1 x 2 = x_14 → hx_g hL1 hl1 q_6 4 → hx_g hL1 hl1 q_13 5 → hx_g hL1 hl1 q_20 0 → (∀ j : Nat, (j : Int) < (hl1.2.1 x 8).toInt → hl1.2.2 qp j ≠ none) → (∀ j : Nat, (j : Int) < (hl1.2.1 x 11).toInt → hl1.2.2 qc j ≠ none) → (∀ j : Nat, (j : Int) < (hl1.2.1 x 6).toInt → hl1.2.2 qa j ≠ none) → lv_has ls 6 [(4, .int iv45_4), (3, .ref q_6), (0, .ref x), (1, .int i1), (2, .int i2)] → W p l e ({ frames := 8, cells := 0, slots := 0, locals := 223 }) s m ([.ref x, .int i1, .int i2] : List Value).toArray below meth c H locs 0 0 (MQ below (va_Qi (fun (r : Int32) (u : List Nat × hx_h) => (True) ∧ hx_T T_tb u.1 u.2 ∧ hx_S T_tb [(5, 0), (5, 1), (5, 9), (5, 10), (5, 11), (5, 12), (27, 0), (28, 0), (29, 0), (30, 0), (31, 0), (32, 0), (33, 0)] L h u.1 u.2) (hx_E T_tb (P_ty dA) (dC, dI) vwCl (hx_A L sz)) (hx_A L sz)) ([.ref x, .int i1, .int i2] : List Value).toArray s 0 0 (hx_A L sz)) (F0 m 45 ls []) := by
        intro n45
        induction n45 with
        | zero => intro iv45_4 H locs hL1 hl1 bliv45_4 buiv45_4  ls hn45; exfalso; omega
        | succ n45 ih45 =>
          intro iv45_4 H locs hL1 hl1 bliv45_4 buiv45_4  ls hn45 hW hT hM fq_13 fx_14 gq_6 gq_13 gq_20 pf_x_8 pf_x_11 pf_x_6 hl
          refine lv_iload hx hb dX9_plan_45 (lv_at hl 0 rfl) ?_
          refine lv_aload_n hx hb dX9_plan_47 rfl (lv_at hl 2 rfl) ?_
          refine hx_geti hx hb hts hC_9 hown hW hT (gx.S hM) tt_9 11 ?o18 rfl kw_375 ⟨rfl, rfl, rfl⟩ dX9_plan_48 (fun x_31 ex_31 lx_31 ux_31 => ?_)
          case o18 => decide
          have fx_31 := ex_31.symm
          refine hb_icmp_ge (zx := iv45_4.toInt) (zy := x_31.toInt) (tgt := 133) hx hb rfl rfl dX9_plan_51 ?o19 (fun c_32 => ?_) (fun c_32 => ?_)
          case o19 => decide
          · skip
            refine lv_aload_n hx hb dX9_plan_133 rfl (lv_at hl 2 rfl) ?_
            refine hk_getr hx hb hts hC_9 hown hW (gx.S hM) tt_9 17 ?o20 rfl kw_381 ⟨rfl, rfl, rfl⟩ fq_13 dX9_plan_134 ?_
            case o20 => decide
            refine hx_goi (hx_runVX (As := []) (rest := []) ⟨hx, hb, hml, hown, hts⟩ hW gq_13 tt_5 (T := TX5) (N := 13) rfl (t_X5_settle l dC dI dA hL1 hl1 H.size b0 q_13 hT gq_13) hZ (cwV 0 hts (hx_gV kw_960 kw_957 kw_958 kw_959 kw_100) rfl rfl rfl (by decide +kernel) ⟨Nat.le_of_ble_eq_true rfl, Nat.le_of_ble_eq_true rfl⟩) rfl hl.1 rfl (Nat.le_of_ble_eq_true rfl) dX9_plan_137 ⟨Nat.le_of_ble_eq_true rfl, Nat.le_of_ble_eq_true rfl⟩) hW (fun r_35 L_33 h_34 H locs p_36 hW => ?_)
            obtain ⟨hr_37, hT, hs⟩ := p_36
            replace hT : hx_T T_tb L_33 h_34 := hT
            replace hs : hx_S T_tb [(5, 1), (5, 11), (5, 12), (27, 0), (28, 0), (29, 0), (33, 0)] hL1 hl1 L_33 h_34 := hs
            replace fq_13 := (hs.o (gx.S hM) trivial rfl).2.trans fq_13
            replace fx_14 := (hs.o (gx.S hM) trivial rfl).1.trans fx_14
            replace fx_31 := (hs.o (gx.S hM) trivial rfl).1.trans fx_31
            replace pf_x_8 : ∀ j : Nat, (j : Int) < (h_34.2.1 x 8).toInt → h_34.2.2 qp j ≠ none := by
              intro j hj; rw [(hs.o (gx.S hM) trivial rfl).1] at hj; rw [(hs.a (gqp.S hM) rfl j).2]; exact pf_x_8 j hj
            replace pf_x_11 : ∀ j : Nat, (j : Int) < (h_34.2.1 x 11).toInt → h_34.2.2 qc j ≠ none := by
              intro j hj; rw [(hs.o (gx.S hM) trivial rfl).1] at hj; rw [(hs.a (gqc.S hM) rfl j).2]; exact pf_x_11 j hj
            replace pf_x_6 : ∀ j : Nat, (j : Int) < (h_34.2.1 x 6).toInt → h_34.2.2 qa j ≠ none := by
              intro j hj; rw [(hs.o (gx.S hM) trivial rfl).1] at hj; rw [(hs.a (gqa.S hM) rfl j).2]; exact pf_x_6 j hj
            replace hM := hM.tr (hs.mono ?o21)
            case o21 => decide
            replace gq_6 := gq_6.S hs
            replace gq_13 := gq_13.S hs
            replace gq_20 := gq_20.S hs
            exact hx_reti hx hb hr hlk hW ⟨trivial, hT, hM⟩ dX9_plan_140
          · skip
            refine lv_aload_n hx hb dX9_plan_54 rfl (lv_at hl 2 rfl) ?_
            refine hk_getr hx hb hts hC_9 hown hW (gx.S hM) tt_9 10 ?o22 rfl kw_374 ⟨rfl, rfl, rfl⟩ ((hM.o gx trivial rfl).2.trans f_x_10) dX9_plan_55 ?_
            case o22 => decide
            refine lv_iload hx hb dX9_plan_58 (lv_at hl 0 rfl) ?_
            refine hx_aaldN hx hb hW hT (gqc.S hM) tt_45 (t1 := 2) rfl ⟨?o23, ?o24⟩ (pf_x_11 _ (by rw [fx_31]; exact hx_tnI (by omega) (by omega))) dX9_plan_60 (fun q_38 fq_38 gq_38 => ?_)
            case o23 => omega
            case o24 => omega
            refine lv_astore (lv' := [(5, .ref q_38), (4, .int iv45_4), (3, .ref q_6), (0, .ref x), (1, .int i1), (2, .int i2)]) hx hb dX9_plan_61 hl ?o25 rfl (fun ls hl => ?_)
            case o25 => decide
            refine lv_aload hx hb dX9_plan_63 (lv_at hl 0 rfl) ?_
            refine hx_getn hx hb hts hC_2 hown hW hT gq_38 tt_2 2 ?o26 rfl kw_733 ⟨rfl, rfl, rfl⟩ dX9_plan_65 (fun q_39 fq_39 gq_39 => ?_)
            case o26 => decide
            refine lv_aload_n hx hb dX9_plan_68 rfl (lv_at hl 2 rfl) ?_
            refine lv_acmp_ne (rx := (some q_39)) (ry := (some q_6)) (tgt := 127) hx hb dX9_plan_69 ?o27 (fun c_40 => ?_) (fun c_40 => ?_)
            case o27 => decide
            · skip
              obtain ⟨x_41, ex_41⟩ : ∃ y : Int32, y = iv45_4 + Int32.ofInt 1 := ⟨_, rfl⟩
              have rg_42 := i32_r iv45_4
              have zx_41 : x_41.toInt = iv45_4.toInt + (1) := ?o28
              case o28 =>
                rw [ex_41]
                refine i32_add rfl ?o29 ?o30 ?o31
                case o29 => decide
                case o30 => omega
                case o31 => omega
              refine lv_iinc (v := x_41) (lv' := [(4, .int x_41), (5, .ref q_38), (3, .ref q_6), (0, .ref x), (1, .int i1), (2, .int i2)]) hx hb dX9_plan_127 hl (k := 1) rfl ex_41.symm ?o32 rfl (fun ls hl => ?_)
              case o32 => decide
              refine lv_goto (tgt := 45) hx hb dX9_plan_130 ?o33 ?_
              case o33 => decide
              refine ih45 x_41 _ _ hL1 hl1 ?o34 ?o35  ls ?o36 hW hT hM fq_13 fx_14 gq_6 gq_13 gq_20 pf_x_8 pf_x_11 pf_x_6 (lv_sub hl [0, 2, 3, 4, 5] rfl)
              case o34 => omega
              case o35 => omega
              case o36 => omega
            · skip
              refine lv_aload hx hb dX9_plan_72 (lv_at hl 0 rfl) ?_
              refine lv_aload_n hx hb dX9_plan_74 rfl (lv_at hl 3 rfl) ?_
              refine hx_getn hx hb hts hC_9 hown hW hT (gx.S hM) tt_9 14 ?o37 rfl kw_378 ⟨rfl, rfl, rfl⟩ dX9_plan_75 (fun q_43 fq_43 gq_43 => ?_)
              case o37 => decide
              refine lv_aload_n hx hb dX9_plan_78 rfl (lv_at hl 3 rfl) ?_
              refine hk_geti hx hb hts hC_9 hown hW (gx.S hM) tt_9 2 ?o38 rfl kw_366 ⟨rfl, rfl, rfl⟩ fx_14 dX9_plan_79 ?_
              case o38 => decide
              refine hx_goi (hx_runV (As := [.ref q_43, .int x_14]) (rest := []) ⟨hx, hb, hml, hown, hts⟩ hW gq_38 tt_2 (T := TX2) (N := 19) rfl (t_X2_isOpen l dC dI dA hL1 hl1 H.size q_38 q_43 x_14 hT gq_38 gq_43) (cwV 2 hts (hx_gV kw_857 kw_854 kw_855 kw_856 kw_110) rfl rfl rfl (by decide +kernel) ⟨Nat.le_of_ble_eq_true rfl, Nat.le_of_ble_eq_true rfl⟩) rfl hl.1 rfl (Nat.le_of_ble_eq_true rfl) dX9_plan_82 ⟨Nat.le_of_ble_eq_true rfl, Nat.le_of_ble_eq_true rfl⟩) hW (fun r_46 L_44 h_45 H locs p_47 hW => ?_)
              obtain ⟨hr_48, hT, hs⟩ := p_47
              replace hT : hx_T T_tb L_44 h_45 := hT
              replace hs : hx_S T_tb [] hL1 hl1 L_44 h_45 := hs
              replace fq_13 := (hs.o (gx.S hM) trivial rfl).2.trans fq_13
              replace fx_14 := (hs.o (gx.S hM) trivial rfl).1.trans fx_14
              replace fx_31 := (hs.o (gx.S hM) trivial rfl).1.trans fx_31
              replace fq_39 := (hs.o gq_38 trivial rfl).2.trans fq_39
              replace fq_43 := (hs.o (gx.S hM) trivial rfl).2.trans fq_43
              replace pf_x_8 : ∀ j : Nat, (j : Int) < (h_45.2.1 x 8).toInt → h_45.2.2 qp j ≠ none := by
                intro j hj; rw [(hs.o (gx.S hM) trivial rfl).1] at hj; rw [(hs.a (gqp.S hM) rfl j).2]; exact pf_x_8 j hj
              replace pf_x_11 : ∀ j : Nat, (j : Int) < (h_45.2.1 x 11).toInt → h_45.2.2 qc j ≠ none := by
                intro j hj; rw [(hs.o (gx.S hM) trivial rfl).1] at hj; rw [(hs.a (gqc.S hM) rfl j).2]; exact pf_x_11 j hj
              replace pf_x_6 : ∀ j : Nat, (j : Int) < (h_45.2.1 x 6).toInt → h_45.2.2 qa j ≠ none := by
                intro j hj; rw [(hs.o (gx.S hM) trivial rfl).1] at hj; rw [(hs.a (gqa.S hM) rfl j).2]; exact pf_x_6 j hj
              replace hM := hM.tr (hs.mono ?o39)
              case o39 => decide
              replace gq_6 := gq_6.S hs
              replace gq_13 := gq_13.S hs
              replace gq_20 := gq_20.S hs
              replace gq_38 := gq_38.S hs
              replace gq_39 := gq_39.S hs
              replace gq_43 := gq_43.S hs
              refine hb_if_eq (zx := r_46.toInt) (tgt := 127) hx hb rfl dX9_plan_85 ?o40 (fun c_49 => ?_) (fun c_49 => ?_)
              case o40 => decide
              · skip
                obtain ⟨x_50, ex_50⟩ : ∃ y : Int32, y = iv45_4 + Int32.ofInt 1 := ⟨_, rfl⟩
                have rg_51 := i32_r iv45_4
                have zx_50 : x_50.toInt = iv45_4.toInt + (1) := ?o41
                case o41 =>
                  rw [ex_50]
                  refine i32_add rfl ?o42 ?o43 ?o44
                  case o42 => decide
                  case o43 => omega
                  case o44 => omega
                refine lv_iinc (v := x_50) (lv' := [(4, .int x_50), (5, .ref q_38), (3, .ref q_6), (0, .ref x), (1, .int i1), (2, .int i2)]) hx hb dX9_plan_127 hl (k := 1) rfl ex_50.symm ?o45 rfl (fun ls hl => ?_)
                case o45 => decide
                refine lv_goto (tgt := 45) hx hb dX9_plan_130 ?o46 ?_
                case o46 => decide
                refine ih45 x_50 _ _ L_44 h_45 ?o47 ?o48  ls ?o49 hW hT hM fq_13 fx_14 gq_6 gq_13 gq_20 pf_x_8 pf_x_11 pf_x_6 (lv_sub hl [0, 2, 3, 4, 5] rfl)
                case o47 => omega
                case o48 => omega
                case o49 => omega
              · skip
                refine lv_aload_n hx hb dX9_plan_88 rfl (lv_at hl 3 rfl) ?_
                refine hk_getr hx hb hts hC_9 hown hW (gx.S hM) tt_9 17 ?o50 rfl kw_381 ⟨rfl, rfl, rfl⟩ fq_13 dX9_plan_89 ?_
                case o50 => decide
                refine hx_geti hx hb hts hC_5 hown hW hT gq_13 tt_5 0 ?o51 rfl kw_259 ⟨rfl, rfl, rfl⟩ dX9_plan_92 (fun x_52 ex_52 lx_52 ux_52 => ?_)
                case o51 => decide
                have fx_52 := ex_52.symm
                refine lv_iconst (v := 4) hx hb dX9_plan_95 ?o52 ?_
                case o52 => decide
                refine hb_icmp_lt (zx := x_52.toInt) (zy := 4) (tgt := 101) hx hb rfl ?o53 dX9_plan_96 ?o54 (fun c_53 => ?_) (fun c_53 => ?_)
                case o53 => decide
                case o54 => decide
                · skip
                  refine lv_aload_n hx hb dX9_plan_101 rfl (lv_at hl 3 rfl) ?_
                  refine hk_getr hx hb hts hC_9 hown hW (gx.S hM) tt_9 17 ?o55 rfl kw_381 ⟨rfl, rfl, rfl⟩ fq_13 dX9_plan_102 ?_
                  case o55 => decide
                  refine lv_aload hx hb dX9_plan_105 (lv_at hl 0 rfl) ?_
                  refine lv_aload hx hb dX9_plan_107 (lv_at hl 0 rfl) ?_
                  refine lv_aload_n hx hb dX9_plan_109 rfl (lv_at hl 3 rfl) ?_
                  refine hk_getr hx hb hts hC_9 hown hW (gx.S hM) tt_9 14 ?o56 rfl kw_378 ⟨rfl, rfl, rfl⟩ fq_43 dX9_plan_110 ?_
                  case o56 => decide
                  refine lv_aload_n hx hb dX9_plan_113 rfl (lv_at hl 3 rfl) ?_
                  refine hk_geti hx hb hts hC_9 hown hW (gx.S hM) tt_9 2 ?o57 rfl kw_366 ⟨rfl, rfl, rfl⟩ fx_14 dX9_plan_114 ?_
                  case o57 => decide
                  refine lv_aload_n hx hb dX9_plan_117 rfl (lv_at hl 3 rfl) ?_
                  refine hk_geti hx hb hts hC_9 hown hW (gx.S hM) tt_9 2 ?o58 rfl kw_366 ⟨rfl, rfl, rfl⟩ fx_14 dX9_plan_118 ?_
                  case o58 => decide
                  refine hx_goi (hx_runV (As := [.ref q_43, .int x_14, .int x_14]) (rest := [.ref q_38, .ref q_13]) ⟨hx, hb, hml, hown, hts⟩ hW gq_38 tt_2 (T := TX2) (N := 19) rfl (t_X2_restOn l dC dI dA L_44 h_45 H.size q_38 q_43 x_14 x_14 hT gq_38 gq_43) (cwV 3 hts (hx_gV kw_861 kw_927 kw_859 kw_860 kw_110) rfl rfl rfl (by decide +kernel) ⟨Nat.le_of_ble_eq_true rfl, Nat.le_of_ble_eq_true rfl⟩) rfl hl.1 rfl (Nat.le_of_ble_eq_true rfl) dX9_plan_121 ⟨Nat.le_of_ble_eq_true rfl, Nat.le_of_ble_eq_true rfl⟩) hW (fun r_56 L_54 h_55 H locs p_57 hW => ?_)
                  obtain ⟨hr_58, hT, hs⟩ := p_57
                  replace hT : hx_T T_tb L_54 h_55 := hT
                  replace hs : hx_S T_tb [] L_44 h_45 L_54 h_55 := hs
                  replace fq_13 := (hs.o (gx.S hM) trivial rfl).2.trans fq_13
                  replace fx_14 := (hs.o (gx.S hM) trivial rfl).1.trans fx_14
                  replace fx_31 := (hs.o (gx.S hM) trivial rfl).1.trans fx_31
                  replace fq_39 := (hs.o gq_38 trivial rfl).2.trans fq_39
                  replace fq_43 := (hs.o (gx.S hM) trivial rfl).2.trans fq_43
                  replace fx_52 := (hs.o gq_13 trivial rfl).1.trans fx_52
                  replace pf_x_8 : ∀ j : Nat, (j : Int) < (h_55.2.1 x 8).toInt → h_55.2.2 qp j ≠ none := by
                    intro j hj; rw [(hs.o (gx.S hM) trivial rfl).1] at hj; rw [(hs.a (gqp.S hM) rfl j).2]; exact pf_x_8 j hj
                  replace pf_x_11 : ∀ j : Nat, (j : Int) < (h_55.2.1 x 11).toInt → h_55.2.2 qc j ≠ none := by
                    intro j hj; rw [(hs.o (gx.S hM) trivial rfl).1] at hj; rw [(hs.a (gqc.S hM) rfl j).2]; exact pf_x_11 j hj
                  replace pf_x_6 : ∀ j : Nat, (j : Int) < (h_55.2.1 x 6).toInt → h_55.2.2 qa j ≠ none := by
                    intro j hj; rw [(hs.o (gx.S hM) trivial rfl).1] at hj; rw [(hs.a (gqa.S hM) rfl j).2]; exact pf_x_6 j hj
                  replace hM := hM.tr (hs.mono ?o59)
                  case o59 => decide
                  replace gq_6 := gq_6.S hs
                  replace gq_13 := gq_13.S hs
                  replace gq_20 := gq_20.S hs
                  replace gq_38 := gq_38.S hs
                  replace gq_39 := gq_39.S hs
                  replace gq_43 := gq_43.S hs
                  refine hx_gov (hx_runV (As := [.ref q_38, .int r_56]) (rest := []) ⟨hx, hb, hml, hown, hts⟩ hW gq_13 tt_5 (T := TX5) (N := 13) rfl (t_X5_addOpen l dC dI dA L_54 h_55 H.size q_13 q_38 r_56 hT gq_13 gq_38) (cwV 2 hts (hx_gV kw_955 kw_952 kw_953 kw_954 kw_100) rfl rfl rfl (by decide +kernel) ⟨Nat.le_of_ble_eq_true rfl, Nat.le_of_ble_eq_true rfl⟩) rfl hl.1 rfl (Nat.le_of_ble_eq_true rfl) dX9_plan_124 ⟨Nat.le_of_ble_eq_true rfl, Nat.le_of_ble_eq_true rfl⟩) hW (fun L_59 h_60 H locs p_62 hW => ?_)
                  obtain ⟨hT, hs⟩ := p_62
                  replace hT : hx_T T_tb L_59 h_60 := hT
                  replace hs : hx_S T_tb [(5, 0), (30, 0), (31, 0), (32, 0)] L_54 h_55 L_59 h_60 := hs
                  replace fq_13 := (hs.o (gx.S hM) trivial rfl).2.trans fq_13
                  replace fx_14 := (hs.o (gx.S hM) trivial rfl).1.trans fx_14
                  replace fx_31 := (hs.o (gx.S hM) trivial rfl).1.trans fx_31
                  replace fq_39 := (hs.o gq_38 trivial rfl).2.trans fq_39
                  replace fq_43 := (hs.o (gx.S hM) trivial rfl).2.trans fq_43
                  replace pf_x_8 : ∀ j : Nat, (j : Int) < (h_60.2.1 x 8).toInt → h_60.2.2 qp j ≠ none := by
                    intro j hj; rw [(hs.o (gx.S hM) trivial rfl).1] at hj; rw [(hs.a (gqp.S hM) rfl j).2]; exact pf_x_8 j hj
                  replace pf_x_11 : ∀ j : Nat, (j : Int) < (h_60.2.1 x 11).toInt → h_60.2.2 qc j ≠ none := by
                    intro j hj; rw [(hs.o (gx.S hM) trivial rfl).1] at hj; rw [(hs.a (gqc.S hM) rfl j).2]; exact pf_x_11 j hj
                  replace pf_x_6 : ∀ j : Nat, (j : Int) < (h_60.2.1 x 6).toInt → h_60.2.2 qa j ≠ none := by
                    intro j hj; rw [(hs.o (gx.S hM) trivial rfl).1] at hj; rw [(hs.a (gqa.S hM) rfl j).2]; exact pf_x_6 j hj
                  replace hM := hM.tr (hs.mono ?o60)
                  case o60 => decide
                  replace gq_6 := gq_6.S hs
                  replace gq_13 := gq_13.S hs
                  replace gq_20 := gq_20.S hs
                  replace gq_38 := gq_38.S hs
                  replace gq_39 := gq_39.S hs
                  replace gq_43 := gq_43.S hs
                  obtain ⟨x_64, ex_64⟩ : ∃ y : Int32, y = iv45_4 + Int32.ofInt 1 := ⟨_, rfl⟩
                  have rg_65 := i32_r iv45_4
                  have zx_64 : x_64.toInt = iv45_4.toInt + (1) := ?o61
                  case o61 =>
                    rw [ex_64]
                    refine i32_add rfl ?o62 ?o63 ?o64
                    case o62 => decide
                    case o63 => omega
                    case o64 => omega
                  refine lv_iinc (v := x_64) (lv' := [(4, .int x_64), (5, .ref q_38), (3, .ref q_6), (0, .ref x), (1, .int i1), (2, .int i2)]) hx hb dX9_plan_127 hl (k := 1) rfl ex_64.symm ?o65 rfl (fun ls hl => ?_)
                  case o65 => decide
                  refine lv_goto (tgt := 45) hx hb dX9_plan_130 ?o66 ?_
                  case o66 => decide
                  refine ih45 x_64 _ _ L_59 h_60 ?o67 ?o68  ls ?o69 hW hT hM fq_13 fx_14 gq_6 gq_13 gq_20 pf_x_8 pf_x_11 pf_x_6 (lv_sub hl [0, 2, 3, 4, 5] rfl)
                  case o67 => omega
                  case o68 => omega
                  case o69 => omega
                · skip
                  refine lv_iconst (v := -1) hx hb dX9_plan_99 ?o70 ?_
                  case o70 => decide
                  exact hx_reti hx hb hr hlk hW ⟨trivial, hT, hM⟩ dX9_plan_100
      have zk_0 : (0 : Int32).toInt = 0 := ?o71
      case o71 => decide
      refine loop45 101 (0 : Int32) _ _ L_26 h_27 ?o72 ?o73  ls ?o74 hW hT hM fq_13 fx_14 gq_6 gq_13 gq_20 pf_x_8 pf_x_11 pf_x_6 hl
      case o72 => decide
      case o73 => decide
      case o74 => omega
    · skip
      replace hr_11 := hr_11.resolve_right (fun z9 => absurd (c_12.symm.trans z9.1) ?o75)
      case o75 => decide
      replace hr_11 := hr_11.2
      refine lv_iconst (v := -1) hx hb dX9_plan_20 ?o76 ?_
      case o76 => decide
      exact hx_reti hx hb hr hlk hW ⟨trivial, hT, hM⟩ dX9_plan_21
end
section
def wNX9_ringNeeds : Nat := 68403413460439553587550615381553978039194146179855585811489708927167361139795935745299384240720412762215011579584851213111114646309451946401252249603269874767047967874257489176470350948558845584729539586502779473645502001071431748893699
theorem wX9_ringNeeds_c : hz_cd cX9_ringNeeds wNX9_ringNeeds 98 := ⟨by decide +kernel, by decide +kernel⟩
theorem dX9_ringNeeds_0 : decode cX9_ringNeeds 0 = .ok (.iconst 0, 1) := dw_3 wX9_ringNeeds_c rfl
theorem dX9_ringNeeds_1 : decode cX9_ringNeeds 1 = .ok (.istore_n 1, 1) := dw_60 wX9_ringNeeds_c rfl
theorem dX9_ringNeeds_2 : decode cX9_ringNeeds 2 = .ok (.iconst 0, 1) := dw_3 wX9_ringNeeds_c rfl
theorem dX9_ringNeeds_3 : decode cX9_ringNeeds 3 = .ok (.istore_n 2, 1) := dw_61 wX9_ringNeeds_c rfl
theorem dX9_ringNeeds_4 : decode cX9_ringNeeds 4 = .ok (.iload_n 2, 1) := dw_28 wX9_ringNeeds_c rfl
theorem dX9_ringNeeds_5 : decode cX9_ringNeeds 5 = .ok (.aload_n 0, 1) := dw_42 wX9_ringNeeds_c rfl
theorem dX9_ringNeeds_6 : decode cX9_ringNeeds 6 = .ok (.getfield 79, 3) := dw_180 wX9_ringNeeds_c 0 79 rfl rfl
theorem dX9_ringNeeds_9 : decode cX9_ringNeeds 9 = .ok (.getfield 361, 3) := dw_180 wX9_ringNeeds_c 1 105 rfl rfl
theorem dX9_ringNeeds_12 : decode cX9_ringNeeds 12 = .ok (.if_icmp .ge 84, 3) := dw_162 wX9_ringNeeds_c 0 84 rfl rfl rfl
theorem dX9_ringNeeds_15 : decode cX9_ringNeeds 15 = .ok (.aload_n 0, 1) := dw_42 wX9_ringNeeds_c rfl
theorem dX9_ringNeeds_16 : decode cX9_ringNeeds 16 = .ok (.getfield 79, 3) := dw_180 wX9_ringNeeds_c 0 79 rfl rfl
theorem dX9_ringNeeds_19 : decode cX9_ringNeeds 19 = .ok (.getfield 364, 3) := dw_180 wX9_ringNeeds_c 1 108 rfl rfl
theorem dX9_ringNeeds_22 : decode cX9_ringNeeds 22 = .ok (.istore_n 3, 1) := dw_62 wX9_ringNeeds_c rfl
theorem dX9_ringNeeds_23 : decode cX9_ringNeeds 23 = .ok (.iconst 0, 1) := dw_3 wX9_ringNeeds_c rfl
theorem dX9_ringNeeds_24 : decode cX9_ringNeeds 24 = .ok (.istore 4, 2) := dw_54 wX9_ringNeeds_c 4 rfl
theorem dX9_ringNeeds_26 : decode cX9_ringNeeds 26 = .ok (.iload 4, 2) := dw_21 wX9_ringNeeds_c 4 rfl
theorem dX9_ringNeeds_28 : decode cX9_ringNeeds 28 = .ok (.aload_n 0, 1) := dw_42 wX9_ringNeeds_c rfl
theorem dX9_ringNeeds_29 : decode cX9_ringNeeds 29 = .ok (.getfield 181, 3) := dw_180 wX9_ringNeeds_c 0 181 rfl rfl
theorem dX9_ringNeeds_32 : decode cX9_ringNeeds 32 = .ok (.if_icmp .ge 58, 3) := dw_162 wX9_ringNeeds_c 0 58 rfl rfl rfl
theorem dX9_ringNeeds_35 : decode cX9_ringNeeds 35 = .ok (.iload_n 3, 1) := dw_29 wX9_ringNeeds_c rfl
theorem dX9_ringNeeds_36 : decode cX9_ringNeeds 36 = .ok (.ifCond .le 54, 3) := dw_158 wX9_ringNeeds_c 0 54 rfl rfl rfl
theorem dX9_ringNeeds_39 : decode cX9_ringNeeds 39 = .ok (.aload_n 0, 1) := dw_42 wX9_ringNeeds_c rfl
theorem dX9_ringNeeds_40 : decode cX9_ringNeeds 40 = .ok (.getfield 66, 3) := dw_180 wX9_ringNeeds_c 0 66 rfl rfl
theorem dX9_ringNeeds_43 : decode cX9_ringNeeds 43 = .ok (.iload 4, 2) := dw_21 wX9_ringNeeds_c 4 rfl
theorem dX9_ringNeeds_45 : decode cX9_ringNeeds 45 = .ok (.iaload, 1) := dw_46 wX9_ringNeeds_c rfl
theorem dX9_ringNeeds_46 : decode cX9_ringNeeds 46 = .ok (.ifCond .le 38, 3) := dw_158 wX9_ringNeeds_c 0 38 rfl rfl rfl
theorem dX9_ringNeeds_49 : decode cX9_ringNeeds 49 = .ok (.aload_n 0, 1) := dw_42 wX9_ringNeeds_c rfl
theorem dX9_ringNeeds_50 : decode cX9_ringNeeds 50 = .ok (.getfield 79, 3) := dw_180 wX9_ringNeeds_c 0 79 rfl rfl
theorem dX9_ringNeeds_53 : decode cX9_ringNeeds 53 = .ok (.iload_n 2, 1) := dw_28 wX9_ringNeeds_c rfl
theorem dX9_ringNeeds_54 : decode cX9_ringNeeds 54 = .ok (.aload_n 0, 1) := dw_42 wX9_ringNeeds_c rfl
theorem dX9_ringNeeds_55 : decode cX9_ringNeeds 55 = .ok (.getfield 48, 3) := dw_180 wX9_ringNeeds_c 0 48 rfl rfl
theorem dX9_ringNeeds_58 : decode cX9_ringNeeds 58 = .ok (.iload 4, 2) := dw_21 wX9_ringNeeds_c 4 rfl
theorem dX9_ringNeeds_60 : decode cX9_ringNeeds 60 = .ok (.aaload, 1) := dw_50 wX9_ringNeeds_c rfl
theorem dX9_ringNeeds_61 : decode cX9_ringNeeds 61 = .ok (.invokevirtual 367, 3) := dw_182 wX9_ringNeeds_c 1 111 rfl rfl
theorem dX9_ringNeeds_64 : decode cX9_ringNeeds 64 = .ok (.ifCond .eq 20, 3) := dw_153 wX9_ringNeeds_c 0 20 rfl rfl rfl
theorem dX9_ringNeeds_67 : decode cX9_ringNeeds 67 = .ok (.iload_n 3, 1) := dw_29 wX9_ringNeeds_c rfl
theorem dX9_ringNeeds_68 : decode cX9_ringNeeds 68 = .ok (.iload_n 3, 1) := dw_29 wX9_ringNeeds_c rfl
theorem dX9_ringNeeds_69 : decode cX9_ringNeeds 69 = .ok (.aload_n 0, 1) := dw_42 wX9_ringNeeds_c rfl
theorem dX9_ringNeeds_70 : decode cX9_ringNeeds 70 = .ok (.getfield 66, 3) := dw_180 wX9_ringNeeds_c 0 66 rfl rfl
theorem dX9_ringNeeds_73 : decode cX9_ringNeeds 73 = .ok (.iload 4, 2) := dw_21 wX9_ringNeeds_c 4 rfl
theorem dX9_ringNeeds_75 : decode cX9_ringNeeds 75 = .ok (.iaload, 1) := dw_46 wX9_ringNeeds_c rfl
theorem dX9_ringNeeds_76 : decode cX9_ringNeeds 76 = .ok (.invokestatic 309, 3) := dw_184 wX9_ringNeeds_c 1 53 rfl rfl
theorem dX9_ringNeeds_79 : decode cX9_ringNeeds 79 = .ok (.isub, 1) := dw_100 wX9_ringNeeds_c rfl
theorem dX9_ringNeeds_80 : decode cX9_ringNeeds 80 = .ok (.istore_n 3, 1) := dw_62 wX9_ringNeeds_c rfl
theorem dX9_ringNeeds_81 : decode cX9_ringNeeds 81 = .ok (.iinc 1 1, 3) := dw_132 wX9_ringNeeds_c 1 1 rfl rfl rfl
theorem dX9_ringNeeds_84 : decode cX9_ringNeeds 84 = .ok (.iinc 4 1, 3) := dw_132 wX9_ringNeeds_c 4 1 rfl rfl rfl
theorem dX9_ringNeeds_87 : decode cX9_ringNeeds 87 = .ok (.goto (-61), 3) := dn_167 wX9_ringNeeds_c 255 195 rfl (by decide)
theorem dX9_ringNeeds_90 : decode cX9_ringNeeds 90 = .ok (.iinc 2 1, 3) := dw_132 wX9_ringNeeds_c 2 1 rfl rfl rfl
theorem dX9_ringNeeds_93 : decode cX9_ringNeeds 93 = .ok (.goto (-89), 3) := dn_167 wX9_ringNeeds_c 255 167 rfl (by decide)
theorem dX9_ringNeeds_96 : decode cX9_ringNeeds 96 = .ok (.iload_n 1, 1) := dw_27 wX9_ringNeeds_c rfl
theorem dX9_ringNeeds_97 : decode cX9_ringNeeds 97 = .ok (.ireturn, 1) := dw_172 wX9_ringNeeds_c rfl
def wNX9_takeOffRing : Nat := 176637885198465358398399543646547253465379569281201098922199603245780818955635250340411598092617544529490219031501946203611968915990251350480871853413760301747224747563119295791954235747102220662730949910689090540514915939868053482745869990874253512194649224403361965903360667826306505874836787239713236268691132666628592387443795134024243239752487812510762
theorem wX9_takeOffRing_c : hz_cd cX9_takeOffRing wNX9_takeOffRing 148 := ⟨by decide +kernel, by decide +kernel⟩
theorem dX9_takeOffRing_0 : decode cX9_takeOffRing 0 = .ok (.aload_n 0, 1) := dw_42 wX9_takeOffRing_c rfl
theorem dX9_takeOffRing_1 : decode cX9_takeOffRing 1 = .ok (.getfield 79, 3) := dw_180 wX9_takeOffRing_c 0 79 rfl rfl
theorem dX9_takeOffRing_4 : decode cX9_takeOffRing 4 = .ok (.getfield 364, 3) := dw_180 wX9_takeOffRing_c 1 108 rfl rfl
theorem dX9_takeOffRing_7 : decode cX9_takeOffRing 7 = .ok (.istore_n 1, 1) := dw_60 wX9_takeOffRing_c rfl
theorem dX9_takeOffRing_8 : decode cX9_takeOffRing 8 = .ok (.iconst 0, 1) := dw_3 wX9_takeOffRing_c rfl
theorem dX9_takeOffRing_9 : decode cX9_takeOffRing 9 = .ok (.istore_n 2, 1) := dw_61 wX9_takeOffRing_c rfl
theorem dX9_takeOffRing_10 : decode cX9_takeOffRing 10 = .ok (.iload_n 2, 1) := dw_28 wX9_takeOffRing_c rfl
theorem dX9_takeOffRing_11 : decode cX9_takeOffRing 11 = .ok (.aload_n 0, 1) := dw_42 wX9_takeOffRing_c rfl
theorem dX9_takeOffRing_12 : decode cX9_takeOffRing 12 = .ok (.getfield 79, 3) := dw_180 wX9_takeOffRing_c 0 79 rfl rfl
theorem dX9_takeOffRing_15 : decode cX9_takeOffRing 15 = .ok (.getfield 361, 3) := dw_180 wX9_takeOffRing_c 1 105 rfl rfl
theorem dX9_takeOffRing_18 : decode cX9_takeOffRing 18 = .ok (.if_icmp .ge 111, 3) := dw_162 wX9_takeOffRing_c 0 111 rfl rfl rfl
theorem dX9_takeOffRing_21 : decode cX9_takeOffRing 21 = .ok (.iload_n 1, 1) := dw_27 wX9_takeOffRing_c rfl
theorem dX9_takeOffRing_22 : decode cX9_takeOffRing 22 = .ok (.istore_n 3, 1) := dw_62 wX9_takeOffRing_c rfl
theorem dX9_takeOffRing_23 : decode cX9_takeOffRing 23 = .ok (.iconst 0, 1) := dw_3 wX9_takeOffRing_c rfl
theorem dX9_takeOffRing_24 : decode cX9_takeOffRing 24 = .ok (.istore 4, 2) := dw_54 wX9_takeOffRing_c 4 rfl
theorem dX9_takeOffRing_26 : decode cX9_takeOffRing 26 = .ok (.iload 4, 2) := dw_21 wX9_takeOffRing_c 4 rfl
theorem dX9_takeOffRing_28 : decode cX9_takeOffRing 28 = .ok (.aload_n 0, 1) := dw_42 wX9_takeOffRing_c rfl
theorem dX9_takeOffRing_29 : decode cX9_takeOffRing 29 = .ok (.getfield 181, 3) := dw_180 wX9_takeOffRing_c 0 181 rfl rfl
theorem dX9_takeOffRing_32 : decode cX9_takeOffRing 32 = .ok (.if_icmp .ge 91, 3) := dw_162 wX9_takeOffRing_c 0 91 rfl rfl rfl
theorem dX9_takeOffRing_35 : decode cX9_takeOffRing 35 = .ok (.iload_n 3, 1) := dw_29 wX9_takeOffRing_c rfl
theorem dX9_takeOffRing_36 : decode cX9_takeOffRing 36 = .ok (.ifCond .le 87, 3) := dw_158 wX9_takeOffRing_c 0 87 rfl rfl rfl
theorem dX9_takeOffRing_39 : decode cX9_takeOffRing 39 = .ok (.aload_n 0, 1) := dw_42 wX9_takeOffRing_c rfl
theorem dX9_takeOffRing_40 : decode cX9_takeOffRing 40 = .ok (.getfield 66, 3) := dw_180 wX9_takeOffRing_c 0 66 rfl rfl
theorem dX9_takeOffRing_43 : decode cX9_takeOffRing 43 = .ok (.iload 4, 2) := dw_21 wX9_takeOffRing_c 4 rfl
theorem dX9_takeOffRing_45 : decode cX9_takeOffRing 45 = .ok (.iaload, 1) := dw_46 wX9_takeOffRing_c rfl
theorem dX9_takeOffRing_46 : decode cX9_takeOffRing 46 = .ok (.ifCond .le 71, 3) := dw_158 wX9_takeOffRing_c 0 71 rfl rfl rfl
theorem dX9_takeOffRing_49 : decode cX9_takeOffRing 49 = .ok (.aload_n 0, 1) := dw_42 wX9_takeOffRing_c rfl
theorem dX9_takeOffRing_50 : decode cX9_takeOffRing 50 = .ok (.getfield 79, 3) := dw_180 wX9_takeOffRing_c 0 79 rfl rfl
theorem dX9_takeOffRing_53 : decode cX9_takeOffRing 53 = .ok (.iload_n 2, 1) := dw_28 wX9_takeOffRing_c rfl
theorem dX9_takeOffRing_54 : decode cX9_takeOffRing 54 = .ok (.aload_n 0, 1) := dw_42 wX9_takeOffRing_c rfl
theorem dX9_takeOffRing_55 : decode cX9_takeOffRing 55 = .ok (.getfield 48, 3) := dw_180 wX9_takeOffRing_c 0 48 rfl rfl
theorem dX9_takeOffRing_58 : decode cX9_takeOffRing 58 = .ok (.iload 4, 2) := dw_21 wX9_takeOffRing_c 4 rfl
theorem dX9_takeOffRing_60 : decode cX9_takeOffRing 60 = .ok (.aaload, 1) := dw_50 wX9_takeOffRing_c rfl
theorem dX9_takeOffRing_61 : decode cX9_takeOffRing 61 = .ok (.invokevirtual 367, 3) := dw_182 wX9_takeOffRing_c 1 111 rfl rfl
theorem dX9_takeOffRing_64 : decode cX9_takeOffRing 64 = .ok (.ifCond .eq 53, 3) := dw_153 wX9_takeOffRing_c 0 53 rfl rfl rfl
theorem dX9_takeOffRing_67 : decode cX9_takeOffRing 67 = .ok (.iload_n 3, 1) := dw_29 wX9_takeOffRing_c rfl
theorem dX9_takeOffRing_68 : decode cX9_takeOffRing 68 = .ok (.aload_n 0, 1) := dw_42 wX9_takeOffRing_c rfl
theorem dX9_takeOffRing_69 : decode cX9_takeOffRing 69 = .ok (.getfield 66, 3) := dw_180 wX9_takeOffRing_c 0 66 rfl rfl
theorem dX9_takeOffRing_72 : decode cX9_takeOffRing 72 = .ok (.iload 4, 2) := dw_21 wX9_takeOffRing_c 4 rfl
theorem dX9_takeOffRing_74 : decode cX9_takeOffRing 74 = .ok (.iaload, 1) := dw_46 wX9_takeOffRing_c rfl
theorem dX9_takeOffRing_75 : decode cX9_takeOffRing 75 = .ok (.invokestatic 309, 3) := dw_184 wX9_takeOffRing_c 1 53 rfl rfl
theorem dX9_takeOffRing_78 : decode cX9_takeOffRing 78 = .ok (.istore 5, 2) := dw_54 wX9_takeOffRing_c 5 rfl
theorem dX9_takeOffRing_80 : decode cX9_takeOffRing 80 = .ok (.aload_n 0, 1) := dw_42 wX9_takeOffRing_c rfl
theorem dX9_takeOffRing_81 : decode cX9_takeOffRing 81 = .ok (.getfield 58, 3) := dw_180 wX9_takeOffRing_c 0 58 rfl rfl
theorem dX9_takeOffRing_84 : decode cX9_takeOffRing 84 = .ok (.iload 4, 2) := dw_21 wX9_takeOffRing_c 4 rfl
theorem dX9_takeOffRing_86 : decode cX9_takeOffRing 86 = .ok (.aload_n 0, 1) := dw_42 wX9_takeOffRing_c rfl
theorem dX9_takeOffRing_87 : decode cX9_takeOffRing 87 = .ok (.getfield 94, 3) := dw_180 wX9_takeOffRing_c 0 94 rfl rfl
theorem dX9_takeOffRing_90 : decode cX9_takeOffRing 90 = .ok (.aload_n 0, 1) := dw_42 wX9_takeOffRing_c rfl
theorem dX9_takeOffRing_91 : decode cX9_takeOffRing 91 = .ok (.getfield 94, 3) := dw_180 wX9_takeOffRing_c 0 94 rfl rfl
theorem dX9_takeOffRing_94 : decode cX9_takeOffRing 94 = .ok (.iload 5, 2) := dw_21 wX9_takeOffRing_c 5 rfl
theorem dX9_takeOffRing_96 : decode cX9_takeOffRing 96 = .ok (.invokevirtual 282, 3) := dw_182 wX9_takeOffRing_c 1 26 rfl rfl
theorem dX9_takeOffRing_99 : decode cX9_takeOffRing 99 = .ok (.pop, 1) := dw_87 wX9_takeOffRing_c rfl
theorem dX9_takeOffRing_100 : decode cX9_takeOffRing 100 = .ok (.aload_n 0, 1) := dw_42 wX9_takeOffRing_c rfl
theorem dX9_takeOffRing_101 : decode cX9_takeOffRing 101 = .ok (.getfield 66, 3) := dw_180 wX9_takeOffRing_c 0 66 rfl rfl
theorem dX9_takeOffRing_104 : decode cX9_takeOffRing 104 = .ok (.iload 4, 2) := dw_21 wX9_takeOffRing_c 4 rfl
theorem dX9_takeOffRing_106 : decode cX9_takeOffRing 106 = .ok (.dup2, 1) := dw_92 wX9_takeOffRing_c rfl
theorem dX9_takeOffRing_107 : decode cX9_takeOffRing 107 = .ok (.iaload, 1) := dw_46 wX9_takeOffRing_c rfl
theorem dX9_takeOffRing_108 : decode cX9_takeOffRing 108 = .ok (.iload 5, 2) := dw_21 wX9_takeOffRing_c 5 rfl
theorem dX9_takeOffRing_110 : decode cX9_takeOffRing 110 = .ok (.isub, 1) := dw_100 wX9_takeOffRing_c rfl
theorem dX9_takeOffRing_111 : decode cX9_takeOffRing 111 = .ok (.iastore, 1) := dw_79 wX9_takeOffRing_c rfl
theorem dX9_takeOffRing_112 : decode cX9_takeOffRing 112 = .ok (.iload_n 3, 1) := dw_29 wX9_takeOffRing_c rfl
theorem dX9_takeOffRing_113 : decode cX9_takeOffRing 113 = .ok (.iload 5, 2) := dw_21 wX9_takeOffRing_c 5 rfl
theorem dX9_takeOffRing_115 : decode cX9_takeOffRing 115 = .ok (.isub, 1) := dw_100 wX9_takeOffRing_c rfl
theorem dX9_takeOffRing_116 : decode cX9_takeOffRing 116 = .ok (.istore_n 3, 1) := dw_62 wX9_takeOffRing_c rfl
theorem dX9_takeOffRing_117 : decode cX9_takeOffRing 117 = .ok (.iinc 4 1, 3) := dw_132 wX9_takeOffRing_c 4 1 rfl rfl rfl
theorem dX9_takeOffRing_120 : decode cX9_takeOffRing 120 = .ok (.goto (-94), 3) := dn_167 wX9_takeOffRing_c 255 162 rfl (by decide)
theorem dX9_takeOffRing_123 : decode cX9_takeOffRing 123 = .ok (.iinc 2 1, 3) := dw_132 wX9_takeOffRing_c 2 1 rfl rfl rfl
theorem dX9_takeOffRing_126 : decode cX9_takeOffRing 126 = .ok (.goto (-116), 3) := dn_167 wX9_takeOffRing_c 255 140 rfl (by decide)
theorem dX9_takeOffRing_129 : decode cX9_takeOffRing 129 = .ok (.iload_n 1, 1) := dw_27 wX9_takeOffRing_c rfl
theorem dX9_takeOffRing_130 : decode cX9_takeOffRing 130 = .ok (.aload_n 0, 1) := dw_42 wX9_takeOffRing_c rfl
theorem dX9_takeOffRing_131 : decode cX9_takeOffRing 131 = .ok (.getfield 79, 3) := dw_180 wX9_takeOffRing_c 0 79 rfl rfl
theorem dX9_takeOffRing_134 : decode cX9_takeOffRing 134 = .ok (.getfield 361, 3) := dw_180 wX9_takeOffRing_c 1 105 rfl rfl
theorem dX9_takeOffRing_137 : decode cX9_takeOffRing 137 = .ok (.imul, 1) := dw_104 wX9_takeOffRing_c rfl
theorem dX9_takeOffRing_138 : decode cX9_takeOffRing 138 = .ok (.istore_n 2, 1) := dw_61 wX9_takeOffRing_c rfl
theorem dX9_takeOffRing_139 : decode cX9_takeOffRing 139 = .ok (.aload_n 0, 1) := dw_42 wX9_takeOffRing_c rfl
theorem dX9_takeOffRing_140 : decode cX9_takeOffRing 140 = .ok (.getfield 79, 3) := dw_180 wX9_takeOffRing_c 0 79 rfl rfl
theorem dX9_takeOffRing_143 : decode cX9_takeOffRing 143 = .ok (.invokevirtual 371, 3) := dw_182 wX9_takeOffRing_c 1 115 rfl rfl
theorem dX9_takeOffRing_146 : decode cX9_takeOffRing 146 = .ok (.iload_n 2, 1) := dw_28 wX9_takeOffRing_c rfl
theorem dX9_takeOffRing_147 : decode cX9_takeOffRing 147 = .ok (.ireturn, 1) := dw_172 wX9_takeOffRing_c rfl
def wNX9_net : Nat := 2229452320598240509620504406030441163295737338275923901018118281847251018884835624490480997468710194021191482609164386167218269667963008496162246530453792982637267254962826902730763049414962771832054355544161374132570852698765646711457397544887692553935044758552747241081323889016070243973158760857907038421534729645484998177834
theorem wX9_net_c : hz_cd cX9_net wNX9_net 136 := ⟨by decide +kernel, by decide +kernel⟩
theorem dX9_net_0 : decode cX9_net 0 = .ok (.aload_n 0, 1) := dw_42 wX9_net_c rfl
theorem dX9_net_1 : decode cX9_net 1 = .ok (.getfield 79, 3) := dw_180 wX9_net_c 0 79 rfl rfl
theorem dX9_net_4 : decode cX9_net 4 = .ok (.aload_n 0, 1) := dw_42 wX9_net_c rfl
theorem dX9_net_5 : decode cX9_net 5 = .ok (.getfield 125, 3) := dw_180 wX9_net_c 0 125 rfl rfl
theorem dX9_net_8 : decode cX9_net 8 = .ok (.invokevirtual 346, 3) := dw_182 wX9_net_c 1 90 rfl rfl
theorem dX9_net_11 : decode cX9_net 11 = .ok (.iconst 0, 1) := dw_3 wX9_net_c rfl
theorem dX9_net_12 : decode cX9_net 12 = .ok (.istore_n 1, 1) := dw_60 wX9_net_c rfl
theorem dX9_net_13 : decode cX9_net 13 = .ok (.iload_n 1, 1) := dw_27 wX9_net_c rfl
theorem dX9_net_14 : decode cX9_net 14 = .ok (.aload_n 0, 1) := dw_42 wX9_net_c rfl
theorem dX9_net_15 : decode cX9_net 15 = .ok (.getfield 181, 3) := dw_180 wX9_net_c 0 181 rfl rfl
theorem dX9_net_18 : decode cX9_net 18 = .ok (.if_icmp .ge 65, 3) := dw_162 wX9_net_c 0 65 rfl rfl rfl
theorem dX9_net_21 : decode cX9_net 21 = .ok (.aload_n 0, 1) := dw_42 wX9_net_c rfl
theorem dX9_net_22 : decode cX9_net 22 = .ok (.getfield 48, 3) := dw_180 wX9_net_c 0 48 rfl rfl
theorem dX9_net_25 : decode cX9_net 25 = .ok (.iload_n 1, 1) := dw_27 wX9_net_c rfl
theorem dX9_net_26 : decode cX9_net 26 = .ok (.aaload, 1) := dw_50 wX9_net_c rfl
theorem dX9_net_27 : decode cX9_net 27 = .ok (.astore_n 2, 1) := dw_77 wX9_net_c rfl
theorem dX9_net_28 : decode cX9_net 28 = .ok (.aload_n 0, 1) := dw_42 wX9_net_c rfl
theorem dX9_net_29 : decode cX9_net 29 = .ok (.getfield 66, 3) := dw_180 wX9_net_c 0 66 rfl rfl
theorem dX9_net_32 : decode cX9_net 32 = .ok (.iload_n 1, 1) := dw_27 wX9_net_c rfl
theorem dX9_net_33 : decode cX9_net 33 = .ok (.aload_n 2, 1) := dw_44 wX9_net_c rfl
theorem dX9_net_34 : decode cX9_net 34 = .ok (.aload_n 0, 1) := dw_42 wX9_net_c rfl
theorem dX9_net_35 : decode cX9_net 35 = .ok (.getfield 58, 3) := dw_180 wX9_net_c 0 58 rfl rfl
theorem dX9_net_38 : decode cX9_net 38 = .ok (.aload_n 0, 1) := dw_42 wX9_net_c rfl
theorem dX9_net_39 : decode cX9_net 39 = .ok (.getfield 94, 3) := dw_180 wX9_net_c 0 94 rfl rfl
theorem dX9_net_42 : decode cX9_net 42 = .ok (.aload_n 0, 1) := dw_42 wX9_net_c rfl
theorem dX9_net_43 : decode cX9_net 43 = .ok (.getfield 94, 3) := dw_180 wX9_net_c 0 94 rfl rfl
theorem dX9_net_46 : decode cX9_net 46 = .ok (.invokevirtual 302, 3) := dw_182 wX9_net_c 1 46 rfl rfl
theorem dX9_net_49 : decode cX9_net 49 = .ok (.iastore, 1) := dw_79 wX9_net_c rfl
theorem dX9_net_50 : decode cX9_net 50 = .ok (.aload_n 0, 1) := dw_42 wX9_net_c rfl
theorem dX9_net_51 : decode cX9_net 51 = .ok (.getfield 79, 3) := dw_180 wX9_net_c 0 79 rfl rfl
theorem dX9_net_54 : decode cX9_net 54 = .ok (.aload_n 2, 1) := dw_44 wX9_net_c rfl
theorem dX9_net_55 : decode cX9_net 55 = .ok (.getfield 212, 3) := dw_180 wX9_net_c 0 212 rfl rfl
theorem dX9_net_58 : decode cX9_net 58 = .ok (.getfield 143, 3) := dw_180 wX9_net_c 0 143 rfl rfl
theorem dX9_net_61 : decode cX9_net 61 = .ok (.aload_n 2, 1) := dw_44 wX9_net_c rfl
theorem dX9_net_62 : decode cX9_net 62 = .ok (.getfield 223, 3) := dw_180 wX9_net_c 0 223 rfl rfl
theorem dX9_net_65 : decode cX9_net 65 = .ok (.getfield 143, 3) := dw_180 wX9_net_c 0 143 rfl rfl
theorem dX9_net_68 : decode cX9_net 68 = .ok (.aload_n 0, 1) := dw_42 wX9_net_c rfl
theorem dX9_net_69 : decode cX9_net 69 = .ok (.getfield 66, 3) := dw_180 wX9_net_c 0 66 rfl rfl
theorem dX9_net_72 : decode cX9_net 72 = .ok (.iload_n 1, 1) := dw_27 wX9_net_c rfl
theorem dX9_net_73 : decode cX9_net 73 = .ok (.iaload, 1) := dw_46 wX9_net_c rfl
theorem dX9_net_74 : decode cX9_net 74 = .ok (.invokevirtual 348, 3) := dw_182 wX9_net_c 1 92 rfl rfl
theorem dX9_net_77 : decode cX9_net 77 = .ok (.iinc 1 1, 3) := dw_132 wX9_net_c 1 1 rfl rfl rfl
theorem dX9_net_80 : decode cX9_net 80 = .ok (.goto (-67), 3) := dn_167 wX9_net_c 255 189 rfl (by decide)
theorem dX9_net_83 : decode cX9_net 83 = .ok (.iconst 0, 1) := dw_3 wX9_net_c rfl
theorem dX9_net_84 : decode cX9_net 84 = .ok (.istore_n 1, 1) := dw_60 wX9_net_c rfl
theorem dX9_net_85 : decode cX9_net 85 = .ok (.iconst 0, 1) := dw_3 wX9_net_c rfl
theorem dX9_net_86 : decode cX9_net 86 = .ok (.istore_n 2, 1) := dw_61 wX9_net_c rfl
theorem dX9_net_87 : decode cX9_net 87 = .ok (.iload_n 2, 1) := dw_28 wX9_net_c rfl
theorem dX9_net_88 : decode cX9_net 88 = .ok (.bipush 100, 2) := dw_16 wX9_net_c 100 rfl rfl rfl
theorem dX9_net_90 : decode cX9_net 90 = .ok (.if_icmp .ge 44, 3) := dw_162 wX9_net_c 0 44 rfl rfl rfl
theorem dX9_net_93 : decode cX9_net 93 = .ok (.aload_n 0, 1) := dw_42 wX9_net_c rfl
theorem dX9_net_94 : decode cX9_net 94 = .ok (.getfield 79, 3) := dw_180 wX9_net_c 0 79 rfl rfl
theorem dX9_net_97 : decode cX9_net 97 = .ok (.invokevirtual 351, 3) := dw_182 wX9_net_c 1 95 rfl rfl
theorem dX9_net_100 : decode cX9_net 100 = .ok (.ifCond .eq 34, 3) := dw_153 wX9_net_c 0 34 rfl rfl rfl
theorem dX9_net_103 : decode cX9_net 103 = .ok (.aload_n 0, 1) := dw_42 wX9_net_c rfl
theorem dX9_net_104 : decode cX9_net 104 = .ok (.invokevirtual 355, 3) := dw_182 wX9_net_c 1 99 rfl rfl
theorem dX9_net_107 : decode cX9_net 107 = .ok (.sipush 600, 3) := dw_17 wX9_net_c 2 88 rfl rfl rfl
theorem dX9_net_110 : decode cX9_net 110 = .ok (.aload_n 0, 1) := dw_42 wX9_net_c rfl
theorem dX9_net_111 : decode cX9_net 111 = .ok (.getfield 58, 3) := dw_180 wX9_net_c 0 58 rfl rfl
theorem dX9_net_114 : decode cX9_net 114 = .ok (.getfield 278, 3) := dw_180 wX9_net_c 1 22 rfl rfl
theorem dX9_net_117 : decode cX9_net 117 = .ok (.isub, 1) := dw_100 wX9_net_c rfl
theorem dX9_net_118 : decode cX9_net 118 = .ok (.if_icmp .gt 16, 3) := dw_163 wX9_net_c 0 16 rfl rfl rfl
theorem dX9_net_121 : decode cX9_net 121 = .ok (.iload_n 1, 1) := dw_27 wX9_net_c rfl
theorem dX9_net_122 : decode cX9_net 122 = .ok (.aload_n 0, 1) := dw_42 wX9_net_c rfl
theorem dX9_net_123 : decode cX9_net 123 = .ok (.invokevirtual 358, 3) := dw_182 wX9_net_c 1 102 rfl rfl
theorem dX9_net_126 : decode cX9_net 126 = .ok (.iadd, 1) := dw_96 wX9_net_c rfl
theorem dX9_net_127 : decode cX9_net 127 = .ok (.istore_n 1, 1) := dw_60 wX9_net_c rfl
theorem dX9_net_128 : decode cX9_net 128 = .ok (.iinc 2 1, 3) := dw_132 wX9_net_c 2 1 rfl rfl rfl
theorem dX9_net_131 : decode cX9_net 131 = .ok (.goto (-44), 3) := dn_167 wX9_net_c 255 212 rfl (by decide)
theorem dX9_net_134 : decode cX9_net 134 = .ok (.iload_n 1, 1) := dw_27 wX9_net_c rfl
theorem dX9_net_135 : decode cX9_net 135 = .ok (.ireturn, 1) := dw_172 wX9_net_c rfl
end
section
def wNX9_init : Nat := 10848052706165764711796104853470512381271067544096824194801260047424121479470840112427614976904938405509892091408717741319131021095005960067571623622255941922934021963300639079046750478129143379266646190784783831065213755323655751858672405079574677304963834446673729432103000174955236815787077629273494902371225468551453677715836207754758860105103146
theorem wX9_init_c : hz_cd cX9_init wNX9_init 145 := ⟨by decide +kernel, by decide +kernel⟩
theorem dX9_init_0 : decode cX9_init 0 = .ok (.aload_n 0, 1) := dw_42 wX9_init_c rfl
theorem dX9_init_1 : decode cX9_init 1 = .ok (.invokespecial 3, 3) := dw_183 wX9_init_c 0 3 rfl rfl
theorem dX9_init_4 : decode cX9_init 4 = .ok (.aload_n 0, 1) := dw_42 wX9_init_c rfl
theorem dX9_init_5 : decode cX9_init 5 = .ok (.sipush 400, 3) := dw_17 wX9_init_c 1 144 rfl rfl rfl
theorem dX9_init_8 : decode cX9_init 8 = .ok (.newarray .byte, 2) := by decide +kernel
theorem dX9_init_10 : decode cX9_init 10 = .ok (.putfield 9, 3) := dw_181 wX9_init_c 0 9 rfl rfl
theorem dX9_init_13 : decode cX9_init 13 = .ok (.aload_n 0, 1) := dw_42 wX9_init_c rfl
theorem dX9_init_14 : decode cX9_init 14 = .ok (.new 13, 3) := dw_187 wX9_init_c 0 13 rfl rfl
theorem dX9_init_17 : decode cX9_init 17 = .ok (.dup, 1) := dw_89 wX9_init_c rfl
theorem dX9_init_18 : decode cX9_init 18 = .ok (.invokespecial 15, 3) := dw_183 wX9_init_c 0 15 rfl rfl
theorem dX9_init_21 : decode cX9_init 21 = .ok (.putfield 16, 3) := dw_181 wX9_init_c 0 16 rfl rfl
theorem dX9_init_24 : decode cX9_init 24 = .ok (.aload_n 0, 1) := dw_42 wX9_init_c rfl
theorem dX9_init_25 : decode cX9_init 25 = .ok (.new 20, 3) := dw_187 wX9_init_c 0 20 rfl rfl
theorem dX9_init_28 : decode cX9_init 28 = .ok (.dup, 1) := dw_89 wX9_init_c rfl
theorem dX9_init_29 : decode cX9_init 29 = .ok (.iconst (-1), 1) := dw_2 wX9_init_c rfl
theorem dX9_init_30 : decode cX9_init 30 = .ok (.iconst (-1), 1) := dw_2 wX9_init_c rfl
theorem dX9_init_31 : decode cX9_init 31 = .ok (.invokespecial 22, 3) := dw_183 wX9_init_c 0 22 rfl rfl
theorem dX9_init_34 : decode cX9_init 34 = .ok (.putfield 25, 3) := dw_181 wX9_init_c 0 25 rfl rfl
theorem dX9_init_37 : decode cX9_init 37 = .ok (.aload_n 0, 1) := dw_42 wX9_init_c rfl
theorem dX9_init_38 : decode cX9_init 38 = .ok (.bipush 8, 2) := dw_16 wX9_init_c 8 rfl rfl rfl
theorem dX9_init_40 : decode cX9_init 40 = .ok (.anewarray 20, 3) := dw_189 wX9_init_c 0 20 rfl rfl
theorem dX9_init_43 : decode cX9_init 43 = .ok (.putfield 29, 3) := dw_181 wX9_init_c 0 29 rfl rfl
theorem dX9_init_46 : decode cX9_init 46 = .ok (.aload_n 0, 1) := dw_42 wX9_init_c rfl
theorem dX9_init_47 : decode cX9_init 47 = .ok (.bipush 40, 2) := dw_16 wX9_init_c 40 rfl rfl rfl
theorem dX9_init_49 : decode cX9_init 49 = .ok (.anewarray 33, 3) := dw_189 wX9_init_c 0 33 rfl rfl
theorem dX9_init_52 : decode cX9_init 52 = .ok (.putfield 35, 3) := dw_181 wX9_init_c 0 35 rfl rfl
theorem dX9_init_55 : decode cX9_init 55 = .ok (.aload_n 0, 1) := dw_42 wX9_init_c rfl
theorem dX9_init_56 : decode cX9_init 56 = .ok (.new 39, 3) := dw_187 wX9_init_c 0 39 rfl rfl
theorem dX9_init_59 : decode cX9_init 59 = .ok (.dup, 1) := dw_89 wX9_init_c rfl
theorem dX9_init_60 : decode cX9_init 60 = .ok (.invokespecial 41, 3) := dw_183 wX9_init_c 0 41 rfl rfl
theorem dX9_init_63 : decode cX9_init 63 = .ok (.putfield 42, 3) := dw_181 wX9_init_c 0 42 rfl rfl
theorem dX9_init_66 : decode cX9_init 66 = .ok (.aload_n 0, 1) := dw_42 wX9_init_c rfl
theorem dX9_init_67 : decode cX9_init 67 = .ok (.bipush 100, 2) := dw_16 wX9_init_c 100 rfl rfl rfl
theorem dX9_init_69 : decode cX9_init 69 = .ok (.anewarray 46, 3) := dw_189 wX9_init_c 0 46 rfl rfl
theorem dX9_init_72 : decode cX9_init 72 = .ok (.putfield 48, 3) := dw_181 wX9_init_c 0 48 rfl rfl
theorem dX9_init_75 : decode cX9_init 75 = .ok (.aload_n 0, 1) := dw_42 wX9_init_c rfl
theorem dX9_init_76 : decode cX9_init 76 = .ok (.bipush 100, 2) := dw_16 wX9_init_c 100 rfl rfl rfl
theorem dX9_init_78 : decode cX9_init 78 = .ok (.anewarray 46, 3) := dw_189 wX9_init_c 0 46 rfl rfl
theorem dX9_init_81 : decode cX9_init 81 = .ok (.putfield 52, 3) := dw_181 wX9_init_c 0 52 rfl rfl
theorem dX9_init_84 : decode cX9_init 84 = .ok (.aload_n 0, 1) := dw_42 wX9_init_c rfl
theorem dX9_init_85 : decode cX9_init 85 = .ok (.new 55, 3) := dw_187 wX9_init_c 0 55 rfl rfl
theorem dX9_init_88 : decode cX9_init 88 = .ok (.dup, 1) := dw_89 wX9_init_c rfl
theorem dX9_init_89 : decode cX9_init 89 = .ok (.invokespecial 57, 3) := dw_183 wX9_init_c 0 57 rfl rfl
theorem dX9_init_92 : decode cX9_init 92 = .ok (.putfield 58, 3) := dw_181 wX9_init_c 0 58 rfl rfl
theorem dX9_init_95 : decode cX9_init 95 = .ok (.aload_n 0, 1) := dw_42 wX9_init_c rfl
theorem dX9_init_96 : decode cX9_init 96 = .ok (.bipush 40, 2) := dw_16 wX9_init_c 40 rfl rfl rfl
theorem dX9_init_98 : decode cX9_init 98 = .ok (.newarray .int, 2) := by decide +kernel
theorem dX9_init_100 : decode cX9_init 100 = .ok (.putfield 62, 3) := dw_181 wX9_init_c 0 62 rfl rfl
theorem dX9_init_103 : decode cX9_init 103 = .ok (.aload_n 0, 1) := dw_42 wX9_init_c rfl
theorem dX9_init_104 : decode cX9_init 104 = .ok (.bipush 100, 2) := dw_16 wX9_init_c 100 rfl rfl rfl
theorem dX9_init_106 : decode cX9_init 106 = .ok (.newarray .int, 2) := by decide +kernel
theorem dX9_init_108 : decode cX9_init 108 = .ok (.putfield 66, 3) := dw_181 wX9_init_c 0 66 rfl rfl
theorem dX9_init_111 : decode cX9_init 111 = .ok (.aload_n 0, 1) := dw_42 wX9_init_c rfl
theorem dX9_init_112 : decode cX9_init 112 = .ok (.new 69, 3) := dw_187 wX9_init_c 0 69 rfl rfl
theorem dX9_init_115 : decode cX9_init 115 = .ok (.dup, 1) := dw_89 wX9_init_c rfl
theorem dX9_init_116 : decode cX9_init 116 = .ok (.invokespecial 71, 3) := dw_183 wX9_init_c 0 71 rfl rfl
theorem dX9_init_119 : decode cX9_init 119 = .ok (.putfield 72, 3) := dw_181 wX9_init_c 0 72 rfl rfl
theorem dX9_init_122 : decode cX9_init 122 = .ok (.aload_n 0, 1) := dw_42 wX9_init_c rfl
theorem dX9_init_123 : decode cX9_init 123 = .ok (.new 76, 3) := dw_187 wX9_init_c 0 76 rfl rfl
theorem dX9_init_126 : decode cX9_init 126 = .ok (.dup, 1) := dw_89 wX9_init_c rfl
theorem dX9_init_127 : decode cX9_init 127 = .ok (.invokespecial 78, 3) := dw_183 wX9_init_c 0 78 rfl rfl
theorem dX9_init_130 : decode cX9_init 130 = .ok (.putfield 79, 3) := dw_181 wX9_init_c 0 79 rfl rfl
theorem dX9_init_133 : decode cX9_init 133 = .ok (.aload_n 0, 1) := dw_42 wX9_init_c rfl
theorem dX9_init_134 : decode cX9_init 134 = .ok (.new 83, 3) := dw_187 wX9_init_c 0 83 rfl rfl
theorem dX9_init_137 : decode cX9_init 137 = .ok (.dup, 1) := dw_89 wX9_init_c rfl
theorem dX9_init_138 : decode cX9_init 138 = .ok (.invokespecial 85, 3) := dw_183 wX9_init_c 0 85 rfl rfl
theorem dX9_init_141 : decode cX9_init 141 = .ok (.putfield 86, 3) := dw_181 wX9_init_c 0 86 rfl rfl
theorem dX9_init_144 : decode cX9_init 144 = .ok (.return_, 1) := dw_177 wX9_init_c rfl
end
