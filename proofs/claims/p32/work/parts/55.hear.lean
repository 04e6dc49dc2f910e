def wNX10_hear : Nat := 27913297496055752145216659920245205897051165437341913535238533684840135524219689026521012974581595191675182652888850818661644123535184594612604902584631019109846180914290894402298357102058690236057319549582901400831921505166410984154280088937886856970325342486951504689097704804756734005426639863483125689193718132328013732930176005132661284928874995181302046722396621709020439265903370950042068942633454561941462018718374306379505514947869819738024079905788357826587798360298980146397882919270322559791616244163845348892693034127359879851757426278260622464682298692151821669159103426955737939071897721367688500186296179179069377664585939633700269749560701423620801609887808720970912326405978236853384779373391293781461568806696965642794777955113328998456662516277231638800335613648553118843845244882783376103856136728746794
theorem wX10_hear_c : hz_cd cX10_hear wNX10_hear 342 := ⟨by decide +kernel, by decide +kernel⟩
theorem dX10_hear_0 : decode cX10_hear 0 = .ok (.aload_n 0, 1) := dw_42 wX10_hear_c rfl
theorem dX10_hear_1 : decode cX10_hear 1 = .ok (.iload_n 1, 1) := dw_27 wX10_hear_c rfl
theorem dX10_hear_2 : decode cX10_hear 2 = .ok (.invokevirtual 370, 3) := dw_182 wX10_hear_c 1 114 rfl rfl
theorem dX10_hear_5 : decode cX10_hear 5 = .ok (.ifCond .eq 42, 3) := dw_153 wX10_hear_c 0 42 rfl rfl rfl
theorem dX10_hear_8 : decode cX10_hear 8 = .ok (.aload_n 0, 1) := dw_42 wX10_hear_c rfl
theorem dX10_hear_9 : decode cX10_hear 9 = .ok (.getfield 108, 3) := dw_180 wX10_hear_c 0 108 rfl rfl
theorem dX10_hear_12 : decode cX10_hear 12 = .ok (.iload_n 1, 1) := dw_27 wX10_hear_c rfl
theorem dX10_hear_13 : decode cX10_hear 13 = .ok (.iaload, 1) := dw_46 wX10_hear_c rfl
theorem dX10_hear_14 : decode cX10_hear 14 = .ok (.iconst (-1), 1) := dw_2 wX10_hear_c rfl
theorem dX10_hear_15 : decode cX10_hear 15 = .ok (.if_icmp .eq 32, 3) := dw_159 wX10_hear_c 0 32 rfl rfl rfl
theorem dX10_hear_18 : decode cX10_hear 18 = .ok (.aload_n 0, 1) := dw_42 wX10_hear_c rfl
theorem dX10_hear_19 : decode cX10_hear 19 = .ok (.getfield 111, 3) := dw_180 wX10_hear_c 0 111 rfl rfl
theorem dX10_hear_22 : decode cX10_hear 22 = .ok (.iload_n 1, 1) := dw_27 wX10_hear_c rfl
theorem dX10_hear_23 : decode cX10_hear 23 = .ok (.iaload, 1) := dw_46 wX10_hear_c rfl
theorem dX10_hear_24 : decode cX10_hear 24 = .ok (.iconst (-1), 1) := dw_2 wX10_hear_c rfl
theorem dX10_hear_25 : decode cX10_hear 25 = .ok (.if_icmp .ne 22, 3) := dw_160 wX10_hear_c 0 22 rfl rfl rfl
theorem dX10_hear_28 : decode cX10_hear 28 = .ok (.aload_n 0, 1) := dw_42 wX10_hear_c rfl
theorem dX10_hear_29 : decode cX10_hear 29 = .ok (.getfield 56, 3) := dw_180 wX10_hear_c 0 56 rfl rfl
theorem dX10_hear_32 : decode cX10_hear 32 = .ok (.aload_n 0, 1) := dw_42 wX10_hear_c rfl
theorem dX10_hear_33 : decode cX10_hear 33 = .ok (.getfield 84, 3) := dw_180 wX10_hear_c 0 84 rfl rfl
theorem dX10_hear_36 : decode cX10_hear 36 = .ok (.iload_n 1, 1) := dw_27 wX10_hear_c rfl
theorem dX10_hear_37 : decode cX10_hear 37 = .ok (.iaload, 1) := dw_46 wX10_hear_c rfl
theorem dX10_hear_38 : decode cX10_hear 38 = .ok (.baload, 1) := dw_51 wX10_hear_c rfl
theorem dX10_hear_39 : decode cX10_hear 39 = .ok (.ifCond .ne 8, 3) := dw_154 wX10_hear_c 0 8 rfl rfl rfl
theorem dX10_hear_42 : decode cX10_hear 42 = .ok (.iload 4, 2) := dw_21 wX10_hear_c 4 rfl
theorem dX10_hear_44 : decode cX10_hear 44 = .ok (.ifCond .ge 5, 3) := dw_156 wX10_hear_c 0 5 rfl rfl rfl
theorem dX10_hear_47 : decode cX10_hear 47 = .ok (.iconst (-1), 1) := dw_2 wX10_hear_c rfl
theorem dX10_hear_48 : decode cX10_hear 48 = .ok (.ireturn, 1) := dw_172 wX10_hear_c rfl
theorem dX10_hear_49 : decode cX10_hear 49 = .ok (.aload_n 0, 1) := dw_42 wX10_hear_c rfl
theorem dX10_hear_50 : decode cX10_hear 50 = .ok (.iload_n 1, 1) := dw_27 wX10_hear_c rfl
theorem dX10_hear_51 : decode cX10_hear 51 = .ok (.invokevirtual 385, 3) := dw_182 wX10_hear_c 1 129 rfl rfl
theorem dX10_hear_54 : decode cX10_hear 54 = .ok (.istore 5, 2) := dw_54 wX10_hear_c 5 rfl
theorem dX10_hear_56 : decode cX10_hear 56 = .ok (.iload 5, 2) := dw_21 wX10_hear_c 5 rfl
theorem dX10_hear_58 : decode cX10_hear 58 = .ok (.iconst 3, 1) := dw_6 wX10_hear_c rfl
theorem dX10_hear_59 : decode cX10_hear 59 = .ok (.if_icmp .ge 5, 3) := dw_162 wX10_hear_c 0 5 rfl rfl rfl
theorem dX10_hear_62 : decode cX10_hear 62 = .ok (.iconst (-1), 1) := dw_2 wX10_hear_c rfl
theorem dX10_hear_63 : decode cX10_hear 63 = .ok (.ireturn, 1) := dw_172 wX10_hear_c rfl
theorem dX10_hear_64 : decode cX10_hear 64 = .ok (.aload_n 0, 1) := dw_42 wX10_hear_c rfl
theorem dX10_hear_65 : decode cX10_hear 65 = .ok (.iload_n 1, 1) := dw_27 wX10_hear_c rfl
theorem dX10_hear_66 : decode cX10_hear 66 = .ok (.iload 5, 2) := dw_21 wX10_hear_c 5 rfl
theorem dX10_hear_68 : decode cX10_hear 68 = .ok (.iload 4, 2) := dw_21 wX10_hear_c 4 rfl
theorem dX10_hear_70 : decode cX10_hear 70 = .ok (.iload 5, 2) := dw_21 wX10_hear_c 5 rfl
theorem dX10_hear_72 : decode cX10_hear 72 = .ok (.iload 5, 2) := dw_21 wX10_hear_c 5 rfl
theorem dX10_hear_74 : decode cX10_hear 74 = .ok (.iconst 1, 1) := dw_4 wX10_hear_c rfl
theorem dX10_hear_75 : decode cX10_hear 75 = .ok (.isub, 1) := dw_100 wX10_hear_c rfl
theorem dX10_hear_76 : decode cX10_hear 76 = .ok (.imul, 1) := dw_104 wX10_hear_c rfl
theorem dX10_hear_77 : decode cX10_hear 77 = .ok (.iload 5, 2) := dw_21 wX10_hear_c 5 rfl
theorem dX10_hear_79 : decode cX10_hear 79 = .ok (.iconst 2, 1) := dw_5 wX10_hear_c rfl
theorem dX10_hear_80 : decode cX10_hear 80 = .ok (.isub, 1) := dw_100 wX10_hear_c rfl
theorem dX10_hear_81 : decode cX10_hear 81 = .ok (.imul, 1) := dw_104 wX10_hear_c rfl
theorem dX10_hear_82 : decode cX10_hear 82 = .ok (.bipush 6, 2) := dw_16 wX10_hear_c 6 rfl rfl rfl
theorem dX10_hear_84 : decode cX10_hear 84 = .ok (.idiv, 1) := dw_108 wX10_hear_c rfl
theorem dX10_hear_85 : decode cX10_hear 85 = .ok (.irem, 1) := dw_112 wX10_hear_c rfl
theorem dX10_hear_86 : decode cX10_hear 86 = .ok (.invokevirtual 388, 3) := dw_182 wX10_hear_c 1 132 rfl rfl
theorem dX10_hear_89 : decode cX10_hear 89 = .ok (.aload_n 0, 1) := dw_42 wX10_hear_c rfl
theorem dX10_hear_90 : decode cX10_hear 90 = .ok (.getfield 111, 3) := dw_180 wX10_hear_c 0 111 rfl rfl
theorem dX10_hear_93 : decode cX10_hear 93 = .ok (.iload_n 1, 1) := dw_27 wX10_hear_c rfl
theorem dX10_hear_94 : decode cX10_hear 94 = .ok (.aload_n 0, 1) := dw_42 wX10_hear_c rfl
theorem dX10_hear_95 : decode cX10_hear 95 = .ok (.getfield 232, 3) := dw_180 wX10_hear_c 0 232 rfl rfl
theorem dX10_hear_98 : decode cX10_hear 98 = .ok (.iastore, 1) := dw_79 wX10_hear_c rfl
theorem dX10_hear_99 : decode cX10_hear 99 = .ok (.aload_n 0, 1) := dw_42 wX10_hear_c rfl
theorem dX10_hear_100 : decode cX10_hear 100 = .ok (.getfield 141, 3) := dw_180 wX10_hear_c 0 141 rfl rfl
theorem dX10_hear_103 : decode cX10_hear 103 = .ok (.aload_n 0, 1) := dw_42 wX10_hear_c rfl
theorem dX10_hear_104 : decode cX10_hear 104 = .ok (.getfield 392, 3) := dw_180 wX10_hear_c 1 136 rfl rfl
theorem dX10_hear_107 : decode cX10_hear 107 = .ok (.iload_n 1, 1) := dw_27 wX10_hear_c rfl
theorem dX10_hear_108 : decode cX10_hear 108 = .ok (.iastore, 1) := dw_79 wX10_hear_c rfl
theorem dX10_hear_109 : decode cX10_hear 109 = .ok (.aload_n 0, 1) := dw_42 wX10_hear_c rfl
theorem dX10_hear_110 : decode cX10_hear 110 = .ok (.dup, 1) := dw_89 wX10_hear_c rfl
theorem dX10_hear_111 : decode cX10_hear 111 = .ok (.getfield 392, 3) := dw_180 wX10_hear_c 1 136 rfl rfl
theorem dX10_hear_114 : decode cX10_hear 114 = .ok (.iconst 1, 1) := dw_4 wX10_hear_c rfl
theorem dX10_hear_115 : decode cX10_hear 115 = .ok (.iadd, 1) := dw_96 wX10_hear_c rfl
theorem dX10_hear_116 : decode cX10_hear 116 = .ok (.putfield 392, 3) := dw_181 wX10_hear_c 1 136 rfl rfl
theorem dX10_hear_119 : decode cX10_hear 119 = .ok (.aload_n 0, 1) := dw_42 wX10_hear_c rfl
theorem dX10_hear_120 : decode cX10_hear 120 = .ok (.getfield 129, 3) := dw_180 wX10_hear_c 0 129 rfl rfl
theorem dX10_hear_123 : decode cX10_hear 123 = .ok (.bipush 8, 2) := dw_16 wX10_hear_c 8 rfl rfl rfl
theorem dX10_hear_125 : decode cX10_hear 125 = .ok (.iload_n 1, 1) := dw_27 wX10_hear_c rfl
theorem dX10_hear_126 : decode cX10_hear 126 = .ok (.imul, 1) := dw_104 wX10_hear_c rfl
theorem dX10_hear_127 : decode cX10_hear 127 = .ok (.iload_n 2, 1) := dw_28 wX10_hear_c rfl
theorem dX10_hear_128 : decode cX10_hear 128 = .ok (.ifCond .eq 7, 3) := dw_153 wX10_hear_c 0 7 rfl rfl rfl
theorem dX10_hear_131 : decode cX10_hear 131 = .ok (.iconst 1, 1) := dw_4 wX10_hear_c rfl
theorem dX10_hear_132 : decode cX10_hear 132 = .ok (.goto 4, 3) := dw_167 wX10_hear_c 0 4 rfl rfl rfl
theorem dX10_hear_135 : decode cX10_hear 135 = .ok (.iconst 0, 1) := dw_3 wX10_hear_c rfl
theorem dX10_hear_136 : decode cX10_hear 136 = .ok (.iastore, 1) := dw_79 wX10_hear_c rfl
theorem dX10_hear_137 : decode cX10_hear 137 = .ok (.aload_n 0, 1) := dw_42 wX10_hear_c rfl
theorem dX10_hear_138 : decode cX10_hear 138 = .ok (.getfield 129, 3) := dw_180 wX10_hear_c 0 129 rfl rfl
theorem dX10_hear_141 : decode cX10_hear 141 = .ok (.bipush 8, 2) := dw_16 wX10_hear_c 8 rfl rfl rfl
theorem dX10_hear_143 : decode cX10_hear 143 = .ok (.iload_n 1, 1) := dw_27 wX10_hear_c rfl
theorem dX10_hear_144 : decode cX10_hear 144 = .ok (.imul, 1) := dw_104 wX10_hear_c rfl
theorem dX10_hear_145 : decode cX10_hear 145 = .ok (.iconst 1, 1) := dw_4 wX10_hear_c rfl
theorem dX10_hear_146 : decode cX10_hear 146 = .ok (.iadd, 1) := dw_96 wX10_hear_c rfl
theorem dX10_hear_147 : decode cX10_hear 147 = .ok (.iload_n 3, 1) := dw_29 wX10_hear_c rfl
theorem dX10_hear_148 : decode cX10_hear 148 = .ok (.ifCond .eq 7, 3) := dw_153 wX10_hear_c 0 7 rfl rfl rfl
theorem dX10_hear_151 : decode cX10_hear 151 = .ok (.iconst 1, 1) := dw_4 wX10_hear_c rfl
theorem dX10_hear_152 : decode cX10_hear 152 = .ok (.goto 4, 3) := dw_167 wX10_hear_c 0 4 rfl rfl rfl
theorem dX10_hear_155 : decode cX10_hear 155 = .ok (.iconst 0, 1) := dw_3 wX10_hear_c rfl
theorem dX10_hear_156 : decode cX10_hear 156 = .ok (.iastore, 1) := dw_79 wX10_hear_c rfl
theorem dX10_hear_157 : decode cX10_hear 157 = .ok (.aload_n 0, 1) := dw_42 wX10_hear_c rfl
theorem dX10_hear_158 : decode cX10_hear 158 = .ok (.getfield 129, 3) := dw_180 wX10_hear_c 0 129 rfl rfl
theorem dX10_hear_161 : decode cX10_hear 161 = .ok (.bipush 8, 2) := dw_16 wX10_hear_c 8 rfl rfl rfl
theorem dX10_hear_163 : decode cX10_hear 163 = .ok (.iload_n 1, 1) := dw_27 wX10_hear_c rfl
theorem dX10_hear_164 : decode cX10_hear 164 = .ok (.imul, 1) := dw_104 wX10_hear_c rfl
theorem dX10_hear_165 : decode cX10_hear 165 = .ok (.iconst 2, 1) := dw_5 wX10_hear_c rfl
theorem dX10_hear_166 : decode cX10_hear 166 = .ok (.iadd, 1) := dw_96 wX10_hear_c rfl
theorem dX10_hear_167 : decode cX10_hear 167 = .ok (.aload_n 0, 1) := dw_42 wX10_hear_c rfl
theorem dX10_hear_168 : decode cX10_hear 168 = .ok (.getfield 93, 3) := dw_180 wX10_hear_c 0 93 rfl rfl
theorem dX10_hear_171 : decode cX10_hear 171 = .ok (.iload_n 1, 1) := dw_27 wX10_hear_c rfl
theorem dX10_hear_172 : decode cX10_hear 172 = .ok (.baload, 1) := dw_51 wX10_hear_c rfl
theorem dX10_hear_173 : decode cX10_hear 173 = .ok (.ifCond .eq 7, 3) := dw_153 wX10_hear_c 0 7 rfl rfl rfl
theorem dX10_hear_176 : decode cX10_hear 176 = .ok (.iconst 1, 1) := dw_4 wX10_hear_c rfl
theorem dX10_hear_177 : decode cX10_hear 177 = .ok (.goto 4, 3) := dw_167 wX10_hear_c 0 4 rfl rfl rfl
theorem dX10_hear_180 : decode cX10_hear 180 = .ok (.iconst 0, 1) := dw_3 wX10_hear_c rfl
theorem dX10_hear_181 : decode cX10_hear 181 = .ok (.iastore, 1) := dw_79 wX10_hear_c rfl
theorem dX10_hear_182 : decode cX10_hear 182 = .ok (.aload_n 0, 1) := dw_42 wX10_hear_c rfl
theorem dX10_hear_183 : decode cX10_hear 183 = .ok (.getfield 129, 3) := dw_180 wX10_hear_c 0 129 rfl rfl
theorem dX10_hear_186 : decode cX10_hear 186 = .ok (.bipush 8, 2) := dw_16 wX10_hear_c 8 rfl rfl rfl
theorem dX10_hear_188 : decode cX10_hear 188 = .ok (.iload_n 1, 1) := dw_27 wX10_hear_c rfl
theorem dX10_hear_189 : decode cX10_hear 189 = .ok (.imul, 1) := dw_104 wX10_hear_c rfl
theorem dX10_hear_190 : decode cX10_hear 190 = .ok (.iconst 3, 1) := dw_6 wX10_hear_c rfl
theorem dX10_hear_191 : decode cX10_hear 191 = .ok (.iadd, 1) := dw_96 wX10_hear_c rfl
theorem dX10_hear_192 : decode cX10_hear 192 = .ok (.aload_n 0, 1) := dw_42 wX10_hear_c rfl
theorem dX10_hear_193 : decode cX10_hear 193 = .ok (.getfield 96, 3) := dw_180 wX10_hear_c 0 96 rfl rfl
theorem dX10_hear_196 : decode cX10_hear 196 = .ok (.iload_n 1, 1) := dw_27 wX10_hear_c rfl
theorem dX10_hear_197 : decode cX10_hear 197 = .ok (.iaload, 1) := dw_46 wX10_hear_c rfl
theorem dX10_hear_198 : decode cX10_hear 198 = .ok (.iastore, 1) := dw_79 wX10_hear_c rfl
theorem dX10_hear_199 : decode cX10_hear 199 = .ok (.aload_n 0, 1) := dw_42 wX10_hear_c rfl
theorem dX10_hear_200 : decode cX10_hear 200 = .ok (.getfield 129, 3) := dw_180 wX10_hear_c 0 129 rfl rfl
theorem dX10_hear_203 : decode cX10_hear 203 = .ok (.bipush 8, 2) := dw_16 wX10_hear_c 8 rfl rfl rfl
theorem dX10_hear_205 : decode cX10_hear 205 = .ok (.iload_n 1, 1) := dw_27 wX10_hear_c rfl
theorem dX10_hear_206 : decode cX10_hear 206 = .ok (.imul, 1) := dw_104 wX10_hear_c rfl
theorem dX10_hear_207 : decode cX10_hear 207 = .ok (.iconst 4, 1) := dw_7 wX10_hear_c rfl
theorem dX10_hear_208 : decode cX10_hear 208 = .ok (.iadd, 1) := dw_96 wX10_hear_c rfl
theorem dX10_hear_209 : decode cX10_hear 209 = .ok (.aload_n 0, 1) := dw_42 wX10_hear_c rfl
theorem dX10_hear_210 : decode cX10_hear 210 = .ok (.aload_n 0, 1) := dw_42 wX10_hear_c rfl
theorem dX10_hear_211 : decode cX10_hear 211 = .ok (.getfield 81, 3) := dw_180 wX10_hear_c 0 81 rfl rfl
theorem dX10_hear_214 : decode cX10_hear 214 = .ok (.iload_n 1, 1) := dw_27 wX10_hear_c rfl
theorem dX10_hear_215 : decode cX10_hear 215 = .ok (.iaload, 1) := dw_46 wX10_hear_c rfl
theorem dX10_hear_216 : decode cX10_hear 216 = .ok (.aload_n 0, 1) := dw_42 wX10_hear_c rfl
theorem dX10_hear_217 : decode cX10_hear 217 = .ok (.getfield 84, 3) := dw_180 wX10_hear_c 0 84 rfl rfl
theorem dX10_hear_220 : decode cX10_hear 220 = .ok (.iload_n 1, 1) := dw_27 wX10_hear_c rfl
theorem dX10_hear_221 : decode cX10_hear 221 = .ok (.iaload, 1) := dw_46 wX10_hear_c rfl
theorem dX10_hear_222 : decode cX10_hear 222 = .ok (.aload_n 0, 1) := dw_42 wX10_hear_c rfl
theorem dX10_hear_223 : decode cX10_hear 223 = .ok (.getfield 99, 3) := dw_180 wX10_hear_c 0 99 rfl rfl
theorem dX10_hear_226 : decode cX10_hear 226 = .ok (.iload_n 1, 1) := dw_27 wX10_hear_c rfl
theorem dX10_hear_227 : decode cX10_hear 227 = .ok (.iaload, 1) := dw_46 wX10_hear_c rfl
theorem dX10_hear_228 : decode cX10_hear 228 = .ok (.invokevirtual 358, 3) := dw_182 wX10_hear_c 1 102 rfl rfl
theorem dX10_hear_231 : decode cX10_hear 231 = .ok (.iastore, 1) := dw_79 wX10_hear_c rfl
theorem dX10_hear_232 : decode cX10_hear 232 = .ok (.aload_n 0, 1) := dw_42 wX10_hear_c rfl
theorem dX10_hear_233 : decode cX10_hear 233 = .ok (.getfield 129, 3) := dw_180 wX10_hear_c 0 129 rfl rfl
theorem dX10_hear_236 : decode cX10_hear 236 = .ok (.bipush 8, 2) := dw_16 wX10_hear_c 8 rfl rfl rfl
theorem dX10_hear_238 : decode cX10_hear 238 = .ok (.iload_n 1, 1) := dw_27 wX10_hear_c rfl
theorem dX10_hear_239 : decode cX10_hear 239 = .ok (.imul, 1) := dw_104 wX10_hear_c rfl
theorem dX10_hear_240 : decode cX10_hear 240 = .ok (.iconst 5, 1) := dw_8 wX10_hear_c rfl
theorem dX10_hear_241 : decode cX10_hear 241 = .ok (.iadd, 1) := dw_96 wX10_hear_c rfl
theorem dX10_hear_242 : decode cX10_hear 242 = .ok (.aload_n 0, 1) := dw_42 wX10_hear_c rfl
theorem dX10_hear_243 : decode cX10_hear 243 = .ok (.aload_n 0, 1) := dw_42 wX10_hear_c rfl
theorem dX10_hear_244 : decode cX10_hear 244 = .ok (.getfield 84, 3) := dw_180 wX10_hear_c 0 84 rfl rfl
theorem dX10_hear_247 : decode cX10_hear 247 = .ok (.iload_n 1, 1) := dw_27 wX10_hear_c rfl
theorem dX10_hear_248 : decode cX10_hear 248 = .ok (.iaload, 1) := dw_46 wX10_hear_c rfl
theorem dX10_hear_249 : decode cX10_hear 249 = .ok (.aload_n 0, 1) := dw_42 wX10_hear_c rfl
theorem dX10_hear_250 : decode cX10_hear 250 = .ok (.getfield 81, 3) := dw_180 wX10_hear_c 0 81 rfl rfl
theorem dX10_hear_253 : decode cX10_hear 253 = .ok (.iload_n 1, 1) := dw_27 wX10_hear_c rfl
theorem dX10_hear_254 : decode cX10_hear 254 = .ok (.iaload, 1) := dw_46 wX10_hear_c rfl
theorem dX10_hear_255 : decode cX10_hear 255 = .ok (.aload_n 0, 1) := dw_42 wX10_hear_c rfl
theorem dX10_hear_256 : decode cX10_hear 256 = .ok (.getfield 99, 3) := dw_180 wX10_hear_c 0 99 rfl rfl
theorem dX10_hear_259 : decode cX10_hear 259 = .ok (.iload_n 1, 1) := dw_27 wX10_hear_c rfl
theorem dX10_hear_260 : decode cX10_hear 260 = .ok (.iaload, 1) := dw_46 wX10_hear_c rfl
theorem dX10_hear_261 : decode cX10_hear 261 = .ok (.invokevirtual 358, 3) := dw_182 wX10_hear_c 1 102 rfl rfl
theorem dX10_hear_264 : decode cX10_hear 264 = .ok (.ineg, 1) := dw_116 wX10_hear_c rfl
theorem dX10_hear_265 : decode cX10_hear 265 = .ok (.iastore, 1) := dw_79 wX10_hear_c rfl
theorem dX10_hear_266 : decode cX10_hear 266 = .ok (.aload_n 0, 1) := dw_42 wX10_hear_c rfl
theorem dX10_hear_267 : decode cX10_hear 267 = .ok (.getfield 129, 3) := dw_180 wX10_hear_c 0 129 rfl rfl
theorem dX10_hear_270 : decode cX10_hear 270 = .ok (.bipush 8, 2) := dw_16 wX10_hear_c 8 rfl rfl rfl
theorem dX10_hear_272 : decode cX10_hear 272 = .ok (.iload_n 1, 1) := dw_27 wX10_hear_c rfl
theorem dX10_hear_273 : decode cX10_hear 273 = .ok (.imul, 1) := dw_104 wX10_hear_c rfl
theorem dX10_hear_274 : decode cX10_hear 274 = .ok (.bipush 6, 2) := dw_16 wX10_hear_c 6 rfl rfl rfl
theorem dX10_hear_276 : decode cX10_hear 276 = .ok (.iadd, 1) := dw_96 wX10_hear_c rfl
theorem dX10_hear_277 : decode cX10_hear 277 = .ok (.aload_n 0, 1) := dw_42 wX10_hear_c rfl
theorem dX10_hear_278 : decode cX10_hear 278 = .ok (.aload_n 0, 1) := dw_42 wX10_hear_c rfl
theorem dX10_hear_279 : decode cX10_hear 279 = .ok (.getfield 81, 3) := dw_180 wX10_hear_c 0 81 rfl rfl
theorem dX10_hear_282 : decode cX10_hear 282 = .ok (.iload_n 1, 1) := dw_27 wX10_hear_c rfl
theorem dX10_hear_283 : decode cX10_hear 283 = .ok (.iaload, 1) := dw_46 wX10_hear_c rfl
theorem dX10_hear_284 : decode cX10_hear 284 = .ok (.aload_n 0, 1) := dw_42 wX10_hear_c rfl
theorem dX10_hear_285 : decode cX10_hear 285 = .ok (.getfield 84, 3) := dw_180 wX10_hear_c 0 84 rfl rfl
theorem dX10_hear_288 : decode cX10_hear 288 = .ok (.iload_n 1, 1) := dw_27 wX10_hear_c rfl
theorem dX10_hear_289 : decode cX10_hear 289 = .ok (.iaload, 1) := dw_46 wX10_hear_c rfl
theorem dX10_hear_290 : decode cX10_hear 290 = .ok (.aload_n 0, 1) := dw_42 wX10_hear_c rfl
theorem dX10_hear_291 : decode cX10_hear 291 = .ok (.getfield 99, 3) := dw_180 wX10_hear_c 0 99 rfl rfl
theorem dX10_hear_294 : decode cX10_hear 294 = .ok (.iload_n 1, 1) := dw_27 wX10_hear_c rfl
theorem dX10_hear_295 : decode cX10_hear 295 = .ok (.iaload, 1) := dw_46 wX10_hear_c rfl
theorem dX10_hear_296 : decode cX10_hear 296 = .ok (.invokevirtual 361, 3) := dw_182 wX10_hear_c 1 105 rfl rfl
theorem dX10_hear_299 : decode cX10_hear 299 = .ok (.iastore, 1) := dw_79 wX10_hear_c rfl
theorem dX10_hear_300 : decode cX10_hear 300 = .ok (.aload_n 0, 1) := dw_42 wX10_hear_c rfl
theorem dX10_hear_301 : decode cX10_hear 301 = .ok (.getfield 129, 3) := dw_180 wX10_hear_c 0 129 rfl rfl
theorem dX10_hear_304 : decode cX10_hear 304 = .ok (.bipush 8, 2) := dw_16 wX10_hear_c 8 rfl rfl rfl
theorem dX10_hear_306 : decode cX10_hear 306 = .ok (.iload_n 1, 1) := dw_27 wX10_hear_c rfl
theorem dX10_hear_307 : decode cX10_hear 307 = .ok (.imul, 1) := dw_104 wX10_hear_c rfl
theorem dX10_hear_308 : decode cX10_hear 308 = .ok (.bipush 7, 2) := dw_16 wX10_hear_c 7 rfl rfl rfl
theorem dX10_hear_310 : decode cX10_hear 310 = .ok (.iadd, 1) := dw_96 wX10_hear_c rfl
theorem dX10_hear_311 : decode cX10_hear 311 = .ok (.aload_n 0, 1) := dw_42 wX10_hear_c rfl
theorem dX10_hear_312 : decode cX10_hear 312 = .ok (.getfield 87, 3) := dw_180 wX10_hear_c 0 87 rfl rfl
theorem dX10_hear_315 : decode cX10_hear 315 = .ok (.iload_n 1, 1) := dw_27 wX10_hear_c rfl
theorem dX10_hear_316 : decode cX10_hear 316 = .ok (.iaload, 1) := dw_46 wX10_hear_c rfl
theorem dX10_hear_317 : decode cX10_hear 317 = .ok (.iastore, 1) := dw_79 wX10_hear_c rfl
theorem dX10_hear_318 : decode cX10_hear 318 = .ok (.aload_n 0, 1) := dw_42 wX10_hear_c rfl
theorem dX10_hear_319 : decode cX10_hear 319 = .ok (.getfield 123, 3) := dw_180 wX10_hear_c 0 123 rfl rfl
theorem dX10_hear_322 : decode cX10_hear 322 = .ok (.iload_n 1, 1) := dw_27 wX10_hear_c rfl
theorem dX10_hear_323 : decode cX10_hear 323 = .ok (.aload_n 0, 1) := dw_42 wX10_hear_c rfl
theorem dX10_hear_324 : decode cX10_hear 324 = .ok (.iload_n 1, 1) := dw_27 wX10_hear_c rfl
theorem dX10_hear_325 : decode cX10_hear 325 = .ok (.aload_n 0, 1) := dw_42 wX10_hear_c rfl
theorem dX10_hear_326 : decode cX10_hear 326 = .ok (.getfield 102, 3) := dw_180 wX10_hear_c 0 102 rfl rfl
theorem dX10_hear_329 : decode cX10_hear 329 = .ok (.iload_n 1, 1) := dw_27 wX10_hear_c rfl
theorem dX10_hear_330 : decode cX10_hear 330 = .ok (.iaload, 1) := dw_46 wX10_hear_c rfl
theorem dX10_hear_331 : decode cX10_hear 331 = .ok (.invokevirtual 395, 3) := dw_182 wX10_hear_c 1 139 rfl rfl
theorem dX10_hear_334 : decode cX10_hear 334 = .ok (.iastore, 1) := dw_79 wX10_hear_c rfl
theorem dX10_hear_335 : decode cX10_hear 335 = .ok (.aload_n 0, 1) := dw_42 wX10_hear_c rfl
theorem dX10_hear_336 : decode cX10_hear 336 = .ok (.getfield 123, 3) := dw_180 wX10_hear_c 0 123 rfl rfl
theorem dX10_hear_339 : decode cX10_hear 339 = .ok (.iload_n 1, 1) := dw_27 wX10_hear_c rfl
theorem dX10_hear_340 : decode cX10_hear 340 = .ok (.iaload, 1) := dw_46 wX10_hear_c rfl
theorem dX10_hear_341 : decode cX10_hear 341 = .ok (.ireturn, 1) := dw_172 wX10_hear_c rfl
def wNX10_file : Nat := 63819003510791869358836557229254219818918378433413331083437449190310722066954535363924207717353614315793201628277253229000781729518476917375406016162662504053423742915419261748773297644968070981014733128191043075598568079042277910640603538381980703329498586650080386972562547183965661996532587754710463115128393085716724414506175380364686291252305308153004192127903278688413413802204634611804139809917033951860679049375124017638835235809255310653217777606666028640780126071965861081478341864501675270800911743452797747455048555179590022300007738458252409989530378025007107388458
theorem wX10_file_c : hz_cd cX10_file wNX10_file 240 := ⟨by decide +kernel, by decide +kernel⟩
theorem dX10_file_0 : decode cX10_file 0 = .ok (.aload_n 0, 1) := dw_42 wX10_file_c rfl
theorem dX10_file_1 : decode cX10_file 1 = .ok (.getfield 367, 3) := dw_180 wX10_file_c 1 111 rfl rfl
theorem dX10_file_4 : decode cX10_file 4 = .ok (.bipush 100, 2) := dw_16 wX10_file_c 100 rfl rfl rfl
theorem dX10_file_6 : decode cX10_file 6 = .ok (.if_icmp .eq 68, 3) := dw_159 wX10_file_c 0 68 rfl rfl rfl
theorem dX10_file_9 : decode cX10_file 9 = .ok (.aload_n 0, 1) := dw_42 wX10_file_c rfl
theorem dX10_file_10 : decode cX10_file 10 = .ok (.iload_n 1, 1) := dw_27 wX10_file_c rfl
theorem dX10_file_11 : decode cX10_file 11 = .ok (.invokevirtual 348, 3) := dw_182 wX10_file_c 1 92 rfl rfl
theorem dX10_file_14 : decode cX10_file 14 = .ok (.ifCond .eq 60, 3) := dw_153 wX10_file_c 0 60 rfl rfl rfl
theorem dX10_file_17 : decode cX10_file 17 = .ok (.aload_n 0, 1) := dw_42 wX10_file_c rfl
theorem dX10_file_18 : decode cX10_file 18 = .ok (.iload_n 2, 1) := dw_28 wX10_file_c rfl
theorem dX10_file_19 : decode cX10_file 19 = .ok (.invokevirtual 348, 3) := dw_182 wX10_file_c 1 92 rfl rfl
theorem dX10_file_22 : decode cX10_file 22 = .ok (.ifCond .eq 52, 3) := dw_153 wX10_file_c 0 52 rfl rfl rfl
theorem dX10_file_25 : decode cX10_file 25 = .ok (.iload_n 1, 1) := dw_27 wX10_file_c rfl
theorem dX10_file_26 : decode cX10_file 26 = .ok (.iload_n 2, 1) := dw_28 wX10_file_c rfl
theorem dX10_file_27 : decode cX10_file 27 = .ok (.if_icmp .eq 47, 3) := dw_159 wX10_file_c 0 47 rfl rfl rfl
theorem dX10_file_30 : decode cX10_file 30 = .ok (.aload_n 0, 1) := dw_42 wX10_file_c rfl
theorem dX10_file_31 : decode cX10_file 31 = .ok (.getfield 56, 3) := dw_180 wX10_file_c 0 56 rfl rfl
theorem dX10_file_34 : decode cX10_file 34 = .ok (.iload_n 2, 1) := dw_28 wX10_file_c rfl
theorem dX10_file_35 : decode cX10_file 35 = .ok (.baload, 1) := dw_51 wX10_file_c rfl
theorem dX10_file_36 : decode cX10_file 36 = .ok (.ifCond .ne 38, 3) := dw_154 wX10_file_c 0 38 rfl rfl rfl
theorem dX10_file_39 : decode cX10_file 39 = .ok (.iload_n 3, 1) := dw_29 wX10_file_c rfl
theorem dX10_file_40 : decode cX10_file 40 = .ok (.iconst 1, 1) := dw_4 wX10_file_c rfl
theorem dX10_file_41 : decode cX10_file 41 = .ok (.sipush 9999, 3) := dw_17 wX10_file_c 39 15 rfl rfl rfl
theorem dX10_file_44 : decode cX10_file 44 = .ok (.invokestatic 228, 3) := dw_184 wX10_file_c 0 228 rfl rfl
theorem dX10_file_47 : decode cX10_file 47 = .ok (.ifCond .eq 27, 3) := dw_153 wX10_file_c 0 27 rfl rfl rfl
theorem dX10_file_50 : decode cX10_file 50 = .ok (.iload 4, 2) := dw_21 wX10_file_c 4 rfl
theorem dX10_file_52 : decode cX10_file 52 = .ok (.iconst 0, 1) := dw_3 wX10_file_c rfl
theorem dX10_file_53 : decode cX10_file 53 = .ok (.aload_n 0, 1) := dw_42 wX10_file_c rfl
theorem dX10_file_54 : decode cX10_file 54 = .ok (.getfield 232, 3) := dw_180 wX10_file_c 0 232 rfl rfl
theorem dX10_file_57 : decode cX10_file 57 = .ok (.invokestatic 228, 3) := dw_184 wX10_file_c 0 228 rfl rfl
theorem dX10_file_60 : decode cX10_file 60 = .ok (.ifCond .eq 14, 3) := dw_153 wX10_file_c 0 14 rfl rfl rfl
theorem dX10_file_63 : decode cX10_file 63 = .ok (.iload 6, 2) := dw_21 wX10_file_c 6 rfl
theorem dX10_file_65 : decode cX10_file 65 = .ok (.iconst 0, 1) := dw_3 wX10_file_c rfl
theorem dX10_file_66 : decode cX10_file 66 = .ok (.bipush 9, 2) := dw_16 wX10_file_c 9 rfl rfl rfl
theorem dX10_file_68 : decode cX10_file 68 = .ok (.invokestatic 228, 3) := dw_184 wX10_file_c 0 228 rfl rfl
theorem dX10_file_71 : decode cX10_file 71 = .ok (.ifCond .ne 5, 3) := dw_154 wX10_file_c 0 5 rfl rfl rfl
theorem dX10_file_74 : decode cX10_file 74 = .ok (.iconst (-1), 1) := dw_2 wX10_file_c rfl
theorem dX10_file_75 : decode cX10_file 75 = .ok (.ireturn, 1) := dw_172 wX10_file_c rfl
theorem dX10_file_76 : decode cX10_file 76 = .ok (.aload_n 0, 1) := dw_42 wX10_file_c rfl
theorem dX10_file_77 : decode cX10_file 77 = .ok (.getfield 367, 3) := dw_180 wX10_file_c 1 111 rfl rfl
theorem dX10_file_80 : decode cX10_file 80 = .ok (.istore 7, 2) := dw_54 wX10_file_c 7 rfl
theorem dX10_file_82 : decode cX10_file 82 = .ok (.aload_n 0, 1) := dw_42 wX10_file_c rfl
theorem dX10_file_83 : decode cX10_file 83 = .ok (.getfield 81, 3) := dw_180 wX10_file_c 0 81 rfl rfl
theorem dX10_file_86 : decode cX10_file 86 = .ok (.iload 7, 2) := dw_21 wX10_file_c 7 rfl
theorem dX10_file_88 : decode cX10_file 88 = .ok (.iload_n 1, 1) := dw_27 wX10_file_c rfl
theorem dX10_file_89 : decode cX10_file 89 = .ok (.iastore, 1) := dw_79 wX10_file_c rfl
theorem dX10_file_90 : decode cX10_file 90 = .ok (.aload_n 0, 1) := dw_42 wX10_file_c rfl
theorem dX10_file_91 : decode cX10_file 91 = .ok (.getfield 84, 3) := dw_180 wX10_file_c 0 84 rfl rfl
theorem dX10_file_94 : decode cX10_file 94 = .ok (.iload 7, 2) := dw_21 wX10_file_c 7 rfl
theorem dX10_file_96 : decode cX10_file 96 = .ok (.iload_n 2, 1) := dw_28 wX10_file_c rfl
theorem dX10_file_97 : decode cX10_file 97 = .ok (.iastore, 1) := dw_79 wX10_file_c rfl
theorem dX10_file_98 : decode cX10_file 98 = .ok (.aload_n 0, 1) := dw_42 wX10_file_c rfl
theorem dX10_file_99 : decode cX10_file 99 = .ok (.getfield 87, 3) := dw_180 wX10_file_c 0 87 rfl rfl
theorem dX10_file_102 : decode cX10_file 102 = .ok (.iload 7, 2) := dw_21 wX10_file_c 7 rfl
theorem dX10_file_104 : decode cX10_file 104 = .ok (.iload_n 3, 1) := dw_29 wX10_file_c rfl
theorem dX10_file_105 : decode cX10_file 105 = .ok (.iastore, 1) := dw_79 wX10_file_c rfl
theorem dX10_file_106 : decode cX10_file 106 = .ok (.aload_n 0, 1) := dw_42 wX10_file_c rfl
theorem dX10_file_107 : decode cX10_file 107 = .ok (.getfield 90, 3) := dw_180 wX10_file_c 0 90 rfl rfl
theorem dX10_file_110 : decode cX10_file 110 = .ok (.iload 7, 2) := dw_21 wX10_file_c 7 rfl
theorem dX10_file_112 : decode cX10_file 112 = .ok (.iload 4, 2) := dw_21 wX10_file_c 4 rfl
theorem dX10_file_114 : decode cX10_file 114 = .ok (.iastore, 1) := dw_79 wX10_file_c rfl
theorem dX10_file_115 : decode cX10_file 115 = .ok (.aload_n 0, 1) := dw_42 wX10_file_c rfl
theorem dX10_file_116 : decode cX10_file 116 = .ok (.getfield 93, 3) := dw_180 wX10_file_c 0 93 rfl rfl
theorem dX10_file_119 : decode cX10_file 119 = .ok (.iload 7, 2) := dw_21 wX10_file_c 7 rfl
theorem dX10_file_121 : decode cX10_file 121 = .ok (.iload 5, 2) := dw_21 wX10_file_c 5 rfl
theorem dX10_file_123 : decode cX10_file 123 = .ok (.bastore, 1) := dw_84 wX10_file_c rfl
theorem dX10_file_124 : decode cX10_file 124 = .ok (.aload_n 0, 1) := dw_42 wX10_file_c rfl
theorem dX10_file_125 : decode cX10_file 125 = .ok (.getfield 96, 3) := dw_180 wX10_file_c 0 96 rfl rfl
theorem dX10_file_128 : decode cX10_file 128 = .ok (.iload 7, 2) := dw_21 wX10_file_c 7 rfl
theorem dX10_file_130 : decode cX10_file 130 = .ok (.iload 6, 2) := dw_21 wX10_file_c 6 rfl
theorem dX10_file_132 : decode cX10_file 132 = .ok (.iastore, 1) := dw_79 wX10_file_c rfl
theorem dX10_file_133 : decode cX10_file 133 = .ok (.aload_n 0, 1) := dw_42 wX10_file_c rfl
theorem dX10_file_134 : decode cX10_file 134 = .ok (.getfield 99, 3) := dw_180 wX10_file_c 0 99 rfl rfl
theorem dX10_file_137 : decode cX10_file 137 = .ok (.iload 7, 2) := dw_21 wX10_file_c 7 rfl
theorem dX10_file_139 : decode cX10_file 139 = .ok (.aload_n 0, 1) := dw_42 wX10_file_c rfl
theorem dX10_file_140 : decode cX10_file 140 = .ok (.getfield 232, 3) := dw_180 wX10_file_c 0 232 rfl rfl
theorem dX10_file_143 : decode cX10_file 143 = .ok (.iastore, 1) := dw_79 wX10_file_c rfl
theorem dX10_file_144 : decode cX10_file 144 = .ok (.aload_n 0, 1) := dw_42 wX10_file_c rfl
theorem dX10_file_145 : decode cX10_file 145 = .ok (.getfield 102, 3) := dw_180 wX10_file_c 0 102 rfl rfl
theorem dX10_file_148 : decode cX10_file 148 = .ok (.iload 7, 2) := dw_21 wX10_file_c 7 rfl
theorem dX10_file_150 : decode cX10_file 150 = .ok (.aload_n 0, 1) := dw_42 wX10_file_c rfl
theorem dX10_file_151 : decode cX10_file 151 = .ok (.aload_n 0, 1) := dw_42 wX10_file_c rfl
theorem dX10_file_152 : decode cX10_file 152 = .ok (.getfield 232, 3) := dw_180 wX10_file_c 0 232 rfl rfl
theorem dX10_file_155 : decode cX10_file 155 = .ok (.invokevirtual 330, 3) := dw_182 wX10_file_c 1 74 rfl rfl
theorem dX10_file_158 : decode cX10_file 158 = .ok (.iastore, 1) := dw_79 wX10_file_c rfl
theorem dX10_file_159 : decode cX10_file 159 = .ok (.aload_n 0, 1) := dw_42 wX10_file_c rfl
theorem dX10_file_160 : decode cX10_file 160 = .ok (.getfield 108, 3) := dw_180 wX10_file_c 0 108 rfl rfl
theorem dX10_file_163 : decode cX10_file 163 = .ok (.iload 7, 2) := dw_21 wX10_file_c 7 rfl
theorem dX10_file_165 : decode cX10_file 165 = .ok (.iconst (-1), 1) := dw_2 wX10_file_c rfl
theorem dX10_file_166 : decode cX10_file 166 = .ok (.iastore, 1) := dw_79 wX10_file_c rfl
theorem dX10_file_167 : decode cX10_file 167 = .ok (.aload_n 0, 1) := dw_42 wX10_file_c rfl
theorem dX10_file_168 : decode cX10_file 168 = .ok (.getfield 111, 3) := dw_180 wX10_file_c 0 111 rfl rfl
theorem dX10_file_171 : decode cX10_file 171 = .ok (.iload 7, 2) := dw_21 wX10_file_c 7 rfl
theorem dX10_file_173 : decode cX10_file 173 = .ok (.iconst (-1), 1) := dw_2 wX10_file_c rfl
theorem dX10_file_174 : decode cX10_file 174 = .ok (.iastore, 1) := dw_79 wX10_file_c rfl
theorem dX10_file_175 : decode cX10_file 175 = .ok (.aload_n 0, 1) := dw_42 wX10_file_c rfl
theorem dX10_file_176 : decode cX10_file 176 = .ok (.getfield 114, 3) := dw_180 wX10_file_c 0 114 rfl rfl
theorem dX10_file_179 : decode cX10_file 179 = .ok (.iload 7, 2) := dw_21 wX10_file_c 7 rfl
theorem dX10_file_181 : decode cX10_file 181 = .ok (.iconst (-1), 1) := dw_2 wX10_file_c rfl
theorem dX10_file_182 : decode cX10_file 182 = .ok (.iastore, 1) := dw_79 wX10_file_c rfl
theorem dX10_file_183 : decode cX10_file 183 = .ok (.aload_n 0, 1) := dw_42 wX10_file_c rfl
theorem dX10_file_184 : decode cX10_file 184 = .ok (.getfield 117, 3) := dw_180 wX10_file_c 0 117 rfl rfl
theorem dX10_file_187 : decode cX10_file 187 = .ok (.iload 7, 2) := dw_21 wX10_file_c 7 rfl
theorem dX10_file_189 : decode cX10_file 189 = .ok (.iconst (-1), 1) := dw_2 wX10_file_c rfl
theorem dX10_file_190 : decode cX10_file 190 = .ok (.iastore, 1) := dw_79 wX10_file_c rfl
theorem dX10_file_191 : decode cX10_file 191 = .ok (.aload_n 0, 1) := dw_42 wX10_file_c rfl
theorem dX10_file_192 : decode cX10_file 192 = .ok (.getfield 120, 3) := dw_180 wX10_file_c 0 120 rfl rfl
theorem dX10_file_195 : decode cX10_file 195 = .ok (.iload 7, 2) := dw_21 wX10_file_c 7 rfl
theorem dX10_file_197 : decode cX10_file 197 = .ok (.iconst (-1), 1) := dw_2 wX10_file_c rfl
theorem dX10_file_198 : decode cX10_file 198 = .ok (.iastore, 1) := dw_79 wX10_file_c rfl
theorem dX10_file_199 : decode cX10_file 199 = .ok (.iconst 0, 1) := dw_3 wX10_file_c rfl
theorem dX10_file_200 : decode cX10_file 200 = .ok (.istore 8, 2) := dw_54 wX10_file_c 8 rfl
theorem dX10_file_202 : decode cX10_file 202 = .ok (.iload 8, 2) := dw_21 wX10_file_c 8 rfl
theorem dX10_file_204 : decode cX10_file 204 = .ok (.iconst 3, 1) := dw_6 wX10_file_c rfl
theorem dX10_file_205 : decode cX10_file 205 = .ok (.if_icmp .ge 22, 3) := dw_162 wX10_file_c 0 22 rfl rfl rfl
theorem dX10_file_208 : decode cX10_file 208 = .ok (.aload_n 0, 1) := dw_42 wX10_file_c rfl
theorem dX10_file_209 : decode cX10_file 209 = .ok (.getfield 126, 3) := dw_180 wX10_file_c 0 126 rfl rfl
theorem dX10_file_212 : decode cX10_file 212 = .ok (.iconst 3, 1) := dw_6 wX10_file_c rfl
theorem dX10_file_213 : decode cX10_file 213 = .ok (.iload 7, 2) := dw_21 wX10_file_c 7 rfl
theorem dX10_file_215 : decode cX10_file 215 = .ok (.imul, 1) := dw_104 wX10_file_c rfl
theorem dX10_file_216 : decode cX10_file 216 = .ok (.iload 8, 2) := dw_21 wX10_file_c 8 rfl
theorem dX10_file_218 : decode cX10_file 218 = .ok (.iadd, 1) := dw_96 wX10_file_c rfl
theorem dX10_file_219 : decode cX10_file 219 = .ok (.iconst (-1), 1) := dw_2 wX10_file_c rfl
theorem dX10_file_220 : decode cX10_file 220 = .ok (.iastore, 1) := dw_79 wX10_file_c rfl
theorem dX10_file_221 : decode cX10_file 221 = .ok (.iinc 8 1, 3) := dw_132 wX10_file_c 8 1 rfl rfl rfl
theorem dX10_file_224 : decode cX10_file 224 = .ok (.goto (-22), 3) := dn_167 wX10_file_c 255 234 rfl (by decide)
theorem dX10_file_227 : decode cX10_file 227 = .ok (.aload_n 0, 1) := dw_42 wX10_file_c rfl
theorem dX10_file_228 : decode cX10_file 228 = .ok (.dup, 1) := dw_89 wX10_file_c rfl
theorem dX10_file_229 : decode cX10_file 229 = .ok (.getfield 367, 3) := dw_180 wX10_file_c 1 111 rfl rfl
theorem dX10_file_232 : decode cX10_file 232 = .ok (.iconst 1, 1) := dw_4 wX10_file_c rfl
theorem dX10_file_233 : decode cX10_file 233 = .ok (.iadd, 1) := dw_96 wX10_file_c rfl
theorem dX10_file_234 : decode cX10_file 234 = .ok (.putfield 367, 3) := dw_181 wX10_file_c 1 111 rfl rfl
theorem dX10_file_237 : decode cX10_file 237 = .ok (.iload 7, 2) := dw_21 wX10_file_c 7 rfl
theorem dX10_file_239 : decode cX10_file 239 = .ok (.ireturn, 1) := dw_172 wX10_file_c rfl