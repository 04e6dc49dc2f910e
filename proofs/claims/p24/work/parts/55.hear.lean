section
def wNX10_hear : Nat := 27913297496055752145216659920245205897051165437341913535238533684840135524219689026521012974581595191675182652888850818661644123535184594612604902584631019109846180914290894402298357102058690236057319549582901400831921505166410984154280088937886856970325342486951504689097704804756734005426639863483125689193718132328013732930176005132661284928874995181302046722396621709020439265903370950042068942633454561941462018718374306379505514947869819738024079905788357826587798360298980146397882919270322559791616244163845348892693034127359879851757426278260622464682298692151821669159103426955737939071897721367688500186296179179069377664585939633700269749560701423620801609887808720970912326405978236853384779373391293781461568806696965642794777955113328998456662516277231638800335613648553118843845244882783376103856136728746794
theorem wX10_hear_c : hz_cd cX10_hear wNX10_hear 342 := ⟨by decide +kernel, by decide +kernel⟩
theorem dX10_hear_0 : decode cX10_hear 0 = .ok (.aload_n 0, 1) := dw_42 wX10_hear_c rfl
theorem dX10_hear_1 : decode cX10_hear 1 = .ok (.iload_n 1, 1) := dw_27 wX10_hear_c rfl
theorem dX10_hear_2 : decode cX10_hear 2 = .ok (.invokevirtual 370, 3) := dw_182 wX10_hear_c 1 114 rfl rfl
theorem dX10_hear_5 : decode cX10_hear 5 = .ok (.ifCond .eq 42, 3) := dw_153 wX10_hear_c 0 42 rfl rfl rfl
theorem dX10_hear_8 : decode cX10_hear 8 = .ok (.aload_n 0, 1) := dw_42 wX10_hear_c rfl
theorem dX10_hear_9 : decode cX10_hear 9 = .ok (.getfield 108, 3) := dw_180 wX10_hear_c 0 108 rfl rfl
theorem dX10_hear_12 : decode cX10_hear 12 = .ok (.iload_n 1, 1) := dw_27 wX10_hear_c rfl
theorem dX10_hear_13 : decode cX10_hear 13 = .ok (.iaload, 1) := dw_46 wX10_hear_c rfl
theorem dX10_hear_14 : decode cX10_hear 14 = .ok (.iconst (-1), 1) := dw_2 wX10_hear_c rfl
theorem dX10_hear_15 : decode cX10_hear 15 = .ok (.if_icmp .eq 32, 3) := dw_159 wX10_hear_c 0 32 rfl rfl rfl
theorem dX10_hear_18 : decode cX10_hear 18 = .ok (.aload_n 0, 1) := dw_42 wX10_hear_c rfl
theorem dX10_hear_19 : decode cX10_hear 19 = .ok (.getfield 111, 3) := dw_180 wX10_hear_c 0 111 rfl rfl
theorem dX10_hear_22 : decode cX10_hear 22 = .ok (.iload_n 1, 1) := dw_27 wX10_hear_c rfl
theorem dX10_hear_23 : decode cX10_hear 23 = .ok (.iaload, 1) := dw_46 wX10_hear_c rfl
theorem dX10_hear_24 : decode cX10_hear 24 = .ok (.iconst (-1), 1) := dw_2 wX10_hear_c rfl
theorem dX10_hear_25 : decode cX10_hear 25 = .ok (.if_icmp .ne 22, 3) := dw_160 wX10_hear_c 0 22 rfl rfl rfl
theorem dX10_hear_28 : decode cX10_hear 28 = .ok (.aload_n 0, 1) := dw_42 wX10_hear_c rfl
theorem dX10_hear_29 : decode cX10_hear 29 = .ok (.getfield 56, 3) := dw_180 wX10_hear_c 0 56 rfl rfl
theorem dX10_hear_32 : decode cX10_hear 32 = .ok (.aload_n 0, 1) := dw_42 wX10_hear_c rfl
theorem dX10_hear_33 : decode cX10_hear 33 = .ok (.getfield 84, 3) := dw_180 wX10_hear_c 0 84 rfl rfl
theorem dX10_hear_36 : decode cX10_hear 36 = .ok (.iload_n 1, 1) := dw_27 wX10_hear_c rfl
theorem dX10_hear_37 : decode cX10_hear 37 = .ok (.iaload, 1) := dw_46 wX10_hear_c rfl
theorem dX10_hear_38 : decode cX10_hear 38 = .ok (.baload, 1) := dw_51 wX10_hear_c rfl
theorem dX10_hear_39 : decode cX10_hear 39 = .ok (.ifCond .ne 8, 3) := dw_154 wX10_hear_c 0 8 rfl rfl rfl
theorem dX10_hear_42 : decode cX10_hear 42 = .ok (.iload 4, 2) := dw_21 wX10_hear_c 4 rfl
theorem dX10_hear_44 : decode cX10_hear 44 = .ok (.ifCond .ge 5, 3) := dw_156 wX10_hear_c 0 5 rfl rfl rfl
theorem dX10_hear_47 : decode cX10_hear 47 = .ok (.iconst (-1), 1) := dw_2 wX10_hear_c rfl
theorem dX10_hear_48 : decode cX10_hear 48 = .ok (.ireturn, 1) := dw_172 wX10_hear_c rfl
theorem dX10_hear_49 : decode cX10_hear 49 = .ok (.aload_n 0, 1) := dw_42 wX10_hear_c rfl
theorem dX10_hear_50 : decode cX10_hear 50 = .ok (.iload_n 1, 1) := dw_27 wX10_hear_c rfl
theorem dX10_hear_51 : decode cX10_hear 51 = .ok (.invokevirtual 385, 3) := dw_182 wX10_hear_c 1 129 rfl rfl
theorem dX10_hear_54 : decode cX10_hear 54 = .ok (.istore 5, 2) := dw_54 wX10_hear_c 5 rfl
theorem dX10_hear_56 : decode cX10_hear 56 = .ok (.iload 5, 2) := dw_21 wX10_hear_c 5 rfl
theorem dX10_hear_58 : decode cX10_hear 58 = .ok (.iconst 3, 1) := dw_6 wX10_hear_c rfl
theorem dX10_hear_59 : decode cX10_hear 59 = .ok (.if_icmp .ge 5, 3) := dw_162 wX10_hear_c 0 5 rfl rfl rfl
theorem dX10_hear_62 : decode cX10_hear 62 = .ok (.iconst (-1), 1) := dw_2 wX10_hear_c rfl
theorem dX10_hear_63 : decode cX10_hear 63 = .ok (.ireturn, 1) := dw_172 wX10_hear_c rfl
theorem dX10_hear_64 : decode cX10_hear 64 = .ok (.aload_n 0, 1) := dw_42 wX10_hear_c rfl
theorem dX10_hear_65 : decode cX10_hear 65 = .ok (.iload_n 1, 1) := dw_27 wX10_hear_c rfl
theorem dX10_hear_66 : decode cX10_hear 66 = .ok (.iload 5, 2) := dw_21 wX10_hear_c 5 rfl
theorem dX10_hear_68 : decode cX10_hear 68 = .ok (.iload 4, 2) := dw_21 wX10_hear_c 4 rfl
theorem dX10_hear_70 : decode cX10_hear 70 = .ok (.iload 5, 2) := dw_21 wX10_hear_c 5 rfl
theorem dX10_hear_72 : decode cX10_hear 72 = .ok (.iload 5, 2) := dw_21 wX10_hear_c 5 rfl
theorem dX10_hear_74 : decode cX10_hear 74 = .ok (.iconst 1, 1) := dw_4 wX10_hear_c rfl
theorem dX10_hear_75 : decode cX10_hear 75 = .ok (.isub, 1) := dw_100 wX10_hear_c rfl
theorem dX10_hear_76 : decode cX10_hear 76 = .ok (.imul, 1) := dw_104 wX10_hear_c rfl
theorem dX10_hear_77 : decode cX10_hear 77 = .ok (.iload 5, 2) := dw_21 wX10_hear_c 5 rfl
theorem dX10_hear_79 : decode cX10_hear 79 = .ok (.iconst 2, 1) := dw_5 wX10_hear_c rfl
theorem dX10_hear_80 : decode cX10_hear 80 = .ok (.isub, 1) := dw_100 wX10_hear_c rfl
theorem dX10_hear_81 : decode cX10_hear 81 = .ok (.imul, 1) := dw_104 wX10_hear_c rfl
theorem dX10_hear_82 : decode cX10_hear 82 = .ok (.bipush 6, 2) := dw_16 wX10_hear_c 6 rfl rfl rfl
theorem dX10_hear_84 : decode cX10_hear 84 = .ok (.idiv, 1) := dw_108 wX10_hear_c rfl
theorem dX10_hear_85 : decode cX10_hear 85 = .ok (.irem, 1) := dw_112 wX10_hear_c rfl
theorem dX10_hear_86 : decode cX10_hear 86 = .ok (.invokevirtual 388, 3) := dw_182 wX10_hear_c 1 132 rfl rfl
theorem dX10_hear_89 : decode cX10_hear 89 = .ok (.aload_n 0, 1) := dw_42 wX10_hear_c rfl
theorem dX10_hear_90 : decode cX10_hear 90 = .ok (.getfield 111, 3) := dw_180 wX10_hear_c 0 111 rfl rfl
theorem dX10_hear_93 : decode cX10_hear 93 = .ok (.iload_n 1, 1) := dw_27 wX10_hear_c rfl
theorem dX10_hear_94 : decode cX10_hear 94 = .ok (.aload_n 0, 1) := dw_42 wX10_hear_c rfl
theorem dX10_hear_95 : decode cX10_hear 95 = .ok (.getfield 232, 3) := dw_180 wX10_hear_c 0 232 rfl rfl
theorem dX10_hear_98 : decode cX10_hear 98 = .ok (.iastore, 1) := dw_79 wX10_hear_c rfl
theorem dX10_hear_99 : decode cX10_hear 99 = .ok (.aload_n 0, 1) := dw_42 wX10_hear_c rfl
theorem dX10_hear_100 : decode cX10_hear 100 = .ok (.getfield 141, 3) := dw_180 wX10_hear_c 0 141 rfl rfl
theorem dX10_hear_103 : decode cX10_hear 103 = .ok (.aload_n 0, 1) := dw_42 wX10_hear_c rfl
theorem dX10_hear_104 : decode cX10_hear 104 = .ok (.getfield 392, 3) := dw_180 wX10_hear_c 1 136 rfl rfl
theorem dX10_hear_107 : decode cX10_hear 107 = .ok (.iload_n 1, 1) := dw_27 wX10_hear_c rfl
theorem dX10_hear_108 : decode cX10_hear 108 = .ok (.iastore, 1) := dw_79 wX10_hear_c rfl
theorem dX10_hear_109 : decode cX10_hear 109 = .ok (.aload_n 0, 1) := dw_42 wX10_hear_c rfl
theorem dX10_hear_110 : decode cX10_hear 110 = .ok (.dup, 1) := dw_89 wX10_hear_c rfl
theorem dX10_hear_111 : decode cX10_hear 111 = .ok (.getfield 392, 3) := dw_180 wX10_hear_c 1 136 rfl rfl
theorem dX10_hear_114 : decode cX10_hear 114 = .ok (.iconst 1, 1) := dw_4 wX10_hear_c rfl
theorem dX10_hear_115 : decode cX10_hear 115 = .ok (.iadd, 1) := dw_96 wX10_hear_c rfl
theorem dX10_hear_116 : decode cX10_hear 116 = .ok (.putfield 392, 3) := dw_181 wX10_hear_c 1 136 rfl rfl
theorem dX10_hear_119 : decode cX10_hear 119 = .ok (.aload_n 0, 1) := dw_42 wX10_hear_c rfl
theorem dX10_hear_120 : decode cX10_hear 120 = .ok (.getfield 129, 3) := dw_180 wX10_hear_c 0 129 rfl rfl
theorem dX10_hear_123 : decode cX10_hear 123 = .ok (.bipush 8, 2) := dw_16 wX10_hear_c 8 rfl rfl rfl
theorem dX10_hear_125 : decode cX10_hear 125 = .ok (.iload_n 1, 1) := dw_27 wX10_hear_c rfl
theorem dX10_hear_126 : decode cX10_hear 126 = .ok (.imul, 1) := dw_104 wX10_hear_c rfl
theorem dX10_hear_127 : decode cX10_hear 127 = .ok (.iload_n 2, 1) := dw_28 wX10_hear_c rfl
theorem dX10_hear_128 : decode cX10_hear 128 = .ok (.ifCond .eq 7, 3) := dw_153 wX10_hear_c 0 7 rfl rfl rfl
theorem dX10_hear_131 : decode cX10_hear 131 = .ok (.iconst 1, 1) := dw_4 wX10_hear_c rfl
theorem dX10_hear_132 : decode cX10_hear 132 = .ok (.goto 4, 3) := dw_167 wX10_hear_c 0 4 rfl rfl rfl
theorem dX10_hear_135 : decode cX10_hear 135 = .ok (.iconst 0, 1) := dw_3 wX10_hear_c rfl
theorem dX10_hear_136 : decode cX10_hear 136 = .ok (.iastore, 1) := dw_79 wX10_hear_c rfl
theorem dX10_hear_137 : decode cX10_hear 137 = .ok (.aload_n 0, 1) := dw_42 wX10_hear_c rfl
theorem dX10_hear_138 : decode cX10_hear 138 = .ok (.getfield 129, 3) := dw_180 wX10_hear_c 0 129 rfl rfl
theorem dX10_hear_141 : decode cX10_hear 141 = .ok (.bipush 8, 2) := dw_16 wX10_hear_c 8 rfl rfl rfl
theorem dX10_hear_143 : decode cX10_hear 143 = .ok (.iload_n 1, 1) := dw_27 wX10_hear_c rfl
theorem dX10_hear_144 : decode cX10_hear 144 = .ok (.imul, 1) := dw_104 wX10_hear_c rfl
theorem dX10_hear_145 : decode cX10_hear 145 = .ok (.iconst 1, 1) := dw_4 wX10_hear_c rfl
theorem dX10_hear_146 : decode cX10_hear 146 = .ok (.iadd, 1) := dw_96 wX10_hear_c rfl
theorem dX10_hear_147 : decode cX10_hear 147 = .ok (.iload_n 3, 1) := dw_29 wX10_hear_c rfl
theorem dX10_hear_148 : decode cX10_hear 148 = .ok (.ifCond .eq 7, 3) := dw_153 wX10_hear_c 0 7 rfl rfl rfl
theorem dX10_hear_151 : decode cX10_hear 151 = .ok (.iconst 1, 1) := dw_4 wX10_hear_c rfl
theorem dX10_hear_152 : decode cX10_hear 152 = .ok (.goto 4, 3) := dw_167 wX10_hear_c 0 4 rfl rfl rfl
theorem dX10_hear_155 : decode cX10_hear 155 = .ok (.iconst 0, 1) := dw_3 wX10_hear_c rfl
theorem dX10_hear_156 : decode cX10_hear 156 = .ok (.iastore, 1) := dw_79 wX10_hear_c rfl
theorem dX10_hear_157 : decode cX10_hear 157 = .ok (.aload_n 0, 1) := dw_42 wX10_hear_c rfl
theorem dX10_hear_158 : decode cX10_hear 158 = .ok (.getfield 129, 3) := dw_180 wX10_hear_c 0 129 rfl rfl
theorem dX10_hear_161 : decode cX10_hear 161 = .ok (.bipush 8, 2) := dw_16 wX10_hear_c 8 rfl rfl rfl
theorem dX10_hear_163 : decode cX10_hear 163 = .ok (.iload_n 1, 1) := dw_27 wX10_hear_c rfl
theorem dX10_hear_164 : decode cX10_hear 164 = .ok (.imul, 1) := dw_104 wX10_hear_c rfl
theorem dX10_hear_165 : decode cX10_hear 165 = .ok (.iconst 2, 1) := dw_5 wX10_hear_c rfl
theorem dX10_hear_166 : decode cX10_hear 166 = .ok (.iadd, 1) := dw_96 wX10_hear_c rfl
theorem dX10_hear_167 : decode cX10_hear 167 = .ok (.aload_n 0, 1) := dw_42 wX10_hear_c rfl
theorem dX10_hear_168 : decode cX10_hear 168 = .ok (.getfield 93, 3) := dw_180 wX10_hear_c 0 93 rfl rfl
theorem dX10_hear_171 : decode cX10_hear 171 = .ok (.iload_n 1, 1) := dw_27 wX10_hear_c rfl
theorem dX10_hear_172 : decode cX10_hear 172 = .ok (.baload, 1) := dw_51 wX10_hear_c rfl
theorem dX10_hear_173 : decode cX10_hear 173 = .ok (.ifCond .eq 7, 3) := dw_153 wX10_hear_c 0 7 rfl rfl rfl
theorem dX10_hear_176 : decode cX10_hear 176 = .ok (.iconst 1, 1) := dw_4 wX10_hear_c rfl
theorem dX10_hear_177 : decode cX10_hear 177 = .ok (.goto 4, 3) := dw_167 wX10_hear_c 0 4 rfl rfl rfl
theorem dX10_hear_180 : decode cX10_hear 180 = .ok (.iconst 0, 1) := dw_3 wX10_hear_c rfl
theorem dX10_hear_181 : decode cX10_hear 181 = .ok (.iastore, 1) := dw_79 wX10_hear_c rfl
theorem dX10_hear_182 : decode cX10_hear 182 = .ok (.aload_n 0, 1) := dw_42 wX10_hear_c rfl
theorem dX10_hear_183 : decode cX10_hear 183 = .ok (.getfield 129, 3) := dw_180 wX10_hear_c 0 129 rfl rfl
theorem dX10_hear_186 : decode cX10_hear 186 = .ok (.bipush 8, 2) := dw_16 wX10_hear_c 8 rfl rfl rfl
theorem dX10_hear_188 : decode cX10_hear 188 = .ok (.iload_n 1, 1) := dw_27 wX10_hear_c rfl
theorem dX10_hear_189 : decode cX10_hear 189 = .ok (.imul, 1) := dw_104 wX10_hear_c rfl
theorem dX10_hear_190 : decode cX10_hear 190 = .ok (.iconst 3, 1) := dw_6 wX10_hear_c rfl
theorem dX10_hear_191 : decode cX10_hear 191 = .ok (.iadd, 1) := dw_96 wX10_hear_c rfl
theorem dX10_hear_192 : decode cX10_hear 192 = .ok (.aload_n 0, 1) := dw_42 wX10_hear_c rfl
theorem dX10_hear_193 : decode cX10_hear 193 = .ok (.getfield 96, 3) := dw_180 wX10_hear_c 0 96 rfl rfl
theorem dX10_hear_196 : decode cX10_hear 196 = .ok (.iload_n 1, 1) := dw_27 wX10_hear_c rfl
theorem dX10_hear_197 : decode cX10_hear 197 = .ok (.iaload, 1) := dw_46 wX10_hear_c rfl
theorem dX10_hear_198 : decode cX10_hear 198 = .ok (.iastore, 1) := dw_79 wX10_hear_c rfl
theorem dX10_hear_199 : decode cX10_hear 199 = .ok (.aload_n 0, 1) := dw_42 wX10_hear_c rfl
theorem dX10_hear_200 : decode cX10_hear 200 = .ok (.getfield 129, 3) := dw_180 wX10_hear_c 0 129 rfl rfl
theorem dX10_hear_203 : decode cX10_hear 203 = .ok (.bipush 8, 2) := dw_16 wX10_hear_c 8 rfl rfl rfl
theorem dX10_hear_205 : decode cX10_hear 205 = .ok (.iload_n 1, 1) := dw_27 wX10_hear_c rfl
theorem dX10_hear_206 : decode cX10_hear 206 = .ok (.imul, 1) := dw_104 wX10_hear_c rfl
theorem dX10_hear_207 : decode cX10_hear 207 = .ok (.iconst 4, 1) := dw_7 wX10_hear_c rfl
theorem dX10_hear_208 : decode cX10_hear 208 = .ok (.iadd, 1) := dw_96 wX10_hear_c rfl
theorem dX10_hear_209 : decode cX10_hear 209 = .ok (.aload_n 0, 1) := dw_42 wX10_hear_c rfl
theorem dX10_hear_210 : decode cX10_hear 210 = .ok (.aload_n 0, 1) := dw_42 wX10_hear_c rfl
theorem dX10_hear_211 : decode cX10_hear 211 = .ok (.getfield 81, 3) := dw_180 wX10_hear_c 0 81 rfl rfl
theorem dX10_hear_214 : decode cX10_hear 214 = .ok (.iload_n 1, 1) := dw_27 wX10_hear_c rfl
theorem dX10_hear_215 : decode cX10_hear 215 = .ok (.iaload, 1) := dw_46 wX10_hear_c rfl
theorem dX10_hear_216 : decode cX10_hear 216 = .ok (.aload_n 0, 1) := dw_42 wX10_hear_c rfl
theorem dX10_hear_217 : decode cX10_hear 217 = .ok (.getfield 84, 3) := dw_180 wX10_hear_c 0 84 rfl rfl
theorem dX10_hear_220 : decode cX10_hear 220 = .ok (.iload_n 1, 1) := dw_27 wX10_hear_c rfl
theorem dX10_hear_221 : decode cX10_hear 221 = .ok (.iaload, 1) := dw_46 wX10_hear_c rfl
theorem dX10_hear_222 : decode cX10_hear 222 = .ok (.aload_n 0, 1) := dw_42 wX10_hear_c rfl
theorem dX10_hear_223 : decode cX10_hear 223 = .ok (.getfield 99, 3) := dw_180 wX10_hear_c 0 99 rfl rfl
theorem dX10_hear_226 : decode cX10_hear 226 = .ok (.iload_n 1, 1) := dw_27 wX10_hear_c rfl
theorem dX10_hear_227 : decode cX10_hear 227 = .ok (.iaload, 1) := dw_46 wX10_hear_c rfl
theorem dX10_hear_228 : decode cX10_hear 228 = .ok (.invokevirtual 358, 3) := dw_182 wX10_hear_c 1 102 rfl rfl
theorem dX10_hear_231 : decode cX10_hear 231 = .ok (.iastore, 1) := dw_79 wX10_hear_c rfl
theorem dX10_hear_232 : decode cX10_hear 232 = .ok (.aload_n 0, 1) := dw_42 wX10_hear_c rfl
theorem dX10_hear_233 : decode cX10_hear 233 = .ok (.getfield 129, 3) := dw_180 wX10_hear_c 0 129 rfl rfl
theorem dX10_hear_236 : decode cX10_hear 236 = .ok (.bipush 8, 2) := dw_16 wX10_hear_c 8 rfl rfl rfl
theorem dX10_hear_238 : decode cX10_hear 238 = .ok (.iload_n 1, 1) := dw_27 wX10_hear_c rfl
theorem dX10_hear_239 : decode cX10_hear 239 = .ok (.imul, 1) := dw_104 wX10_hear_c rfl
theorem dX10_hear_240 : decode cX10_hear 240 = .ok (.iconst 5, 1) := dw_8 wX10_hear_c rfl
theorem dX10_hear_241 : decode cX10_hear 241 = .ok (.iadd, 1) := dw_96 wX10_hear_c rfl
theorem dX10_hear_242 : decode cX10_hear 242 = .ok (.aload_n 0, 1) := dw_42 wX10_hear_c rfl
theorem dX10_hear_243 : decode cX10_hear 243 = .ok (.aload_n 0, 1) := dw_42 wX10_hear_c rfl
theorem dX10_hear_244 : decode cX10_hear 244 = .ok (.getfield 84, 3) := dw_180 wX10_hear_c 0 84 rfl rfl
theorem dX10_hear_247 : decode cX10_hear 247 = .ok (.iload_n 1, 1) := dw_27 wX10_hear_c rfl
theorem dX10_hear_248 : decode cX10_hear 248 = .ok (.iaload, 1) := dw_46 wX10_hear_c rfl
theorem dX10_hear_249 : decode cX10_hear 249 = .ok (.aload_n 0, 1) := dw_42 wX10_hear_c rfl
theorem dX10_hear_250 : decode cX10_hear 250 = .ok (.getfield 81, 3) := dw_180 wX10_hear_c 0 81 rfl rfl
theorem dX10_hear_253 : decode cX10_hear 253 = .ok (.iload_n 1, 1) := dw_27 wX10_hear_c rfl
theorem dX10_hear_254 : decode cX10_hear 254 = .ok (.iaload, 1) := dw_46 wX10_hear_c rfl
theorem dX10_hear_255 : decode cX10_hear 255 = .ok (.aload_n 0, 1) := dw_42 wX10_hear_c rfl
theorem dX10_hear_256 : decode cX10_hear 256 = .ok (.getfield 99, 3) := dw_180 wX10_hear_c 0 99 rfl rfl
theorem dX10_hear_259 : decode cX10_hear 259 = .ok (.iload_n 1, 1) := dw_27 wX10_hear_c rfl
theorem dX10_hear_260 : decode cX10_hear 260 = .ok (.iaload, 1) := dw_46 wX10_hear_c rfl
theorem dX10_hear_261 : decode cX10_hear 261 = .ok (.invokevirtual 358, 3) := dw_182 wX10_hear_c 1 102 rfl rfl
theorem dX10_hear_264 : decode cX10_hear 264 = .ok (.ineg, 1) := dw_116 wX10_hear_c rfl
theorem dX10_hear_265 : decode cX10_hear 265 = .ok (.iastore, 1) := dw_79 wX10_hear_c rfl
theorem dX10_hear_266 : decode cX10_hear 266 = .ok (.aload_n 0, 1) := dw_42 wX10_hear_c rfl
theorem dX10_hear_267 : decode cX10_hear 267 = .ok (.getfield 129, 3) := dw_180 wX10_hear_c 0 129 rfl rfl
theorem dX10_hear_270 : decode cX10_hear 270 = .ok (.bipush 8, 2) := dw_16 wX10_hear_c 8 rfl rfl rfl
theorem dX10_hear_272 : decode cX10_hear 272 = .ok (.iload_n 1, 1) := dw_27 wX10_hear_c rfl
theorem dX10_hear_273 : decode cX10_hear 273 = .ok (.imul, 1) := dw_104 wX10_hear_c rfl
theorem dX10_hear_274 : decode cX10_hear 274 = .ok (.bipush 6, 2) := dw_16 wX10_hear_c 6 rfl rfl rfl
theorem dX10_hear_276 : decode cX10_hear 276 = .ok (.iadd, 1) := dw_96 wX10_hear_c rfl
theorem dX10_hear_277 : decode cX10_hear 277 = .ok (.aload_n 0, 1) := dw_42 wX10_hear_c rfl
theorem dX10_hear_278 : decode cX10_hear 278 = .ok (.aload_n 0, 1) := dw_42 wX10_hear_c rfl
theorem dX10_hear_279 : decode cX10_hear 279 = .ok (.getfield 81, 3) := dw_180 wX10_hear_c 0 81 rfl rfl
theorem dX10_hear_282 : decode cX10_hear 282 = .ok (.iload_n 1, 1) := dw_27 wX10_hear_c rfl
theorem dX10_hear_283 : decode cX10_hear 283 = .ok (.iaload, 1) := dw_46 wX10_hear_c rfl
theorem dX10_hear_284 : decode cX10_hear 284 = .ok (.aload_n 0, 1) := dw_42 wX10_hear_c rfl
theorem dX10_hear_285 : decode cX10_hear 285 = .ok (.getfield 84, 3) := dw_180 wX10_hear_c 0 84 rfl rfl
theorem dX10_hear_288 : decode cX10_hear 288 = .ok (.iload_n 1, 1) := dw_27 wX10_hear_c rfl
theorem dX10_hear_289 : decode cX10_hear 289 = .ok (.iaload, 1) := dw_46 wX10_hear_c rfl
theorem dX10_hear_290 : decode cX10_hear 290 = .ok (.aload_n 0, 1) := dw_42 wX10_hear_c rfl
theorem dX10_hear_291 : decode cX10_hear 291 = .ok (.getfield 99, 3) := dw_180 wX10_hear_c 0 99 rfl rfl
theorem dX10_hear_294 : decode cX10_hear 294 = .ok (.iload_n 1, 1) := dw_27 wX10_hear_c rfl
theorem dX10_hear_295 : decode cX10_hear 295 = .ok (.iaload, 1) := dw_46 wX10_hear_c rfl
theorem dX10_hear_296 : decode cX10_hear 296 = .ok (.invokevirtual 361, 3) := dw_182 wX10_hear_c 1 105 rfl rfl
theorem dX10_hear_299 : decode cX10_hear 299 = .ok (.iastore, 1) := dw_79 wX10_hear_c rfl
theorem dX10_hear_300 : decode cX10_hear 300 = .ok (.aload_n 0, 1) := dw_42 wX10_hear_c rfl
theorem dX10_hear_301 : decode cX10_hear 301 = .ok (.getfield 129, 3) := dw_180 wX10_hear_c 0 129 rfl rfl
theorem dX10_hear_304 : decode cX10_hear 304 = .ok (.bipush 8, 2) := dw_16 wX10_hear_c 8 rfl rfl rfl
theorem dX10_hear_306 : decode cX10_hear 306 = .ok (.iload_n 1, 1) := dw_27 wX10_hear_c rfl
theorem dX10_hear_307 : decode cX10_hear 307 = .ok (.imul, 1) := dw_104 wX10_hear_c rfl
theorem dX10_hear_308 : decode cX10_hear 308 = .ok (.bipush 7, 2) := dw_16 wX10_hear_c 7 rfl rfl rfl
theorem dX10_hear_310 : decode cX10_hear 310 = .ok (.iadd, 1) := dw_96 wX10_hear_c rfl
theorem dX10_hear_311 : decode cX10_hear 311 = .ok (.aload_n 0, 1) := dw_42 wX10_hear_c rfl
theorem dX10_hear_312 : decode cX10_hear 312 = .ok (.getfield 87, 3) := dw_180 wX10_hear_c 0 87 rfl rfl
theorem dX10_hear_315 : decode cX10_hear 315 = .ok (.iload_n 1, 1) := dw_27 wX10_hear_c rfl
theorem dX10_hear_316 : decode cX10_hear 316 = .ok (.iaload, 1) := dw_46 wX10_hear_c rfl
theorem dX10_hear_317 : decode cX10_hear 317 = .ok (.iastore, 1) := dw_79 wX10_hear_c rfl
theorem dX10_hear_318 : decode cX10_hear 318 = .ok (.aload_n 0, 1) := dw_42 wX10_hear_c rfl
theorem dX10_hear_319 : decode cX10_hear 319 = .ok (.getfield 123, 3) := dw_180 wX10_hear_c 0 123 rfl rfl
theorem dX10_hear_322 : decode cX10_hear 322 = .ok (.iload_n 1, 1) := dw_27 wX10_hear_c rfl
theorem dX10_hear_323 : decode cX10_hear 323 = .ok (.aload_n 0, 1) := dw_42 wX10_hear_c rfl
theorem dX10_hear_324 : decode cX10_hear 324 = .ok (.iload_n 1, 1) := dw_27 wX10_hear_c rfl
theorem dX10_hear_325 : decode cX10_hear 325 = .ok (.aload_n 0, 1) := dw_42 wX10_hear_c rfl
theorem dX10_hear_326 : decode cX10_hear 326 = .ok (.getfield 102, 3) := dw_180 wX10_hear_c 0 102 rfl rfl
theorem dX10_hear_329 : decode cX10_hear 329 = .ok (.iload_n 1, 1) := dw_27 wX10_hear_c rfl
theorem dX10_hear_330 : decode cX10_hear 330 = .ok (.iaload, 1) := dw_46 wX10_hear_c rfl
theorem dX10_hear_331 : decode cX10_hear 331 = .ok (.invokevirtual 395, 3) := dw_182 wX10_hear_c 1 139 rfl rfl
theorem dX10_hear_334 : decode cX10_hear 334 = .ok (.iastore, 1) := dw_79 wX10_hear_c rfl
theorem dX10_hear_335 : decode cX10_hear 335 = .ok (.aload_n 0, 1) := dw_42 wX10_hear_c rfl
theorem dX10_hear_336 : decode cX10_hear 336 = .ok (.getfield 123, 3) := dw_180 wX10_hear_c 0 123 rfl rfl
theorem dX10_hear_339 : decode cX10_hear 339 = .ok (.iload_n 1, 1) := dw_27 wX10_hear_c rfl
theorem dX10_hear_340 : decode cX10_hear 340 = .ok (.iaload, 1) := dw_46 wX10_hear_c rfl
theorem dX10_hear_341 : decode cX10_hear 341 = .ok (.ireturn, 1) := dw_172 wX10_hear_c rfl
def wNX10_file : Nat := 63819003510791869358836557229254219818918378433413331083437449190310722066954535363924207717353614315793201628277253229000781729518476917375406016162662504053423742915419261748773297644968070981014733128191043075598568079042277910640603538381980703329498586650080386972562547183965661996532587754710463115128393085716724414506175380364686291252305308153004192127903278688413413802204634611804139809917033951860679049375124017638835235809255310653217777606666028640780126071965861081478341864501675270800911743452797747455048555179590022300007738458252409989530378025007107388458
theorem wX10_file_c : hz_cd cX10_file wNX10_file 240 := ⟨by decide +kernel, by decide +kernel⟩
theorem dX10_file_0 : decode cX10_file 0 = .ok (.aload_n 0, 1) := dw_42 wX10_file_c rfl
theorem dX10_file_1 : decode cX10_file 1 = .ok (.getfield 367, 3) := dw_180 wX10_file_c 1 111 rfl rfl
theorem dX10_file_4 : decode cX10_file 4 = .ok (.bipush 100, 2) := dw_16 wX10_file_c 100 rfl rfl rfl
theorem dX10_file_6 : decode cX10_file 6 = .ok (.if_icmp .eq 68, 3) := dw_159 wX10_file_c 0 68 rfl rfl rfl
theorem dX10_file_9 : decode cX10_file 9 = .ok (.aload_n 0, 1) := dw_42 wX10_file_c rfl
theorem dX10_file_10 : decode cX10_file 10 = .ok (.iload_n 1, 1) := dw_27 wX10_file_c rfl
theorem dX10_file_11 : decode cX10_file 11 = .ok (.invokevirtual 348, 3) := dw_182 wX10_file_c 1 92 rfl rfl
theorem dX10_file_14 : decode cX10_file 14 = .ok (.ifCond .eq 60, 3) := dw_153 wX10_file_c 0 60 rfl rfl rfl
theorem dX10_file_17 : decode cX10_file 17 = .ok (.aload_n 0, 1) := dw_42 wX10_file_c rfl
theorem dX10_file_18 : decode cX10_file 18 = .ok (.iload_n 2, 1) := dw_28 wX10_file_c rfl
theorem dX10_file_19 : decode cX10_file 19 = .ok (.invokevirtual 348, 3) := dw_182 wX10_file_c 1 92 rfl rfl
theorem dX10_file_22 : decode cX10_file 22 = .ok (.ifCond .eq 52, 3) := dw_153 wX10_file_c 0 52 rfl rfl rfl
theorem dX10_file_25 : decode cX10_file 25 = .ok (.iload_n 1, 1) := dw_27 wX10_file_c rfl
theorem dX10_file_26 : decode cX10_file 26 = .ok (.iload_n 2, 1) := dw_28 wX10_file_c rfl
theorem dX10_file_27 : decode cX10_file 27 = .ok (.if_icmp .eq 47, 3) := dw_159 wX10_file_c 0 47 rfl rfl rfl
theorem dX10_file_30 : decode cX10_file 30 = .ok (.aload_n 0, 1) := dw_42 wX10_file_c rfl
theorem dX10_file_31 : decode cX10_file 31 = .ok (.getfield 56, 3) := dw_180 wX10_file_c 0 56 rfl rfl
theorem dX10_file_34 : decode cX10_file 34 = .ok (.iload_n 2, 1) := dw_28 wX10_file_c rfl
theorem dX10_file_35 : decode cX10_file 35 = .ok (.baload, 1) := dw_51 wX10_file_c rfl
theorem dX10_file_36 : decode cX10_file 36 = .ok (.ifCond .ne 38, 3) := dw_154 wX10_file_c 0 38 rfl rfl rfl
theorem dX10_file_39 : decode cX10_file 39 = .ok (.iload_n 3, 1) := dw_29 wX10_file_c rfl
theorem dX10_file_40 : decode cX10_file 40 = .ok (.iconst 1, 1) := dw_4 wX10_file_c rfl
theorem dX10_file_41 : decode cX10_file 41 = .ok (.sipush 9999, 3) := dw_17 wX10_file_c 39 15 rfl rfl rfl
theorem dX10_file_44 : decode cX10_file 44 = .ok (.invokestatic 228, 3) := dw_184 wX10_file_c 0 228 rfl rfl
theorem dX10_file_47 : decode cX10_file 47 = .ok (.ifCond .eq 27, 3) := dw_153 wX10_file_c 0 27 rfl rfl rfl
theorem dX10_file_50 : decode cX10_file 50 = .ok (.iload 4, 2) := dw_21 wX10_file_c 4 rfl
theorem dX10_file_52 : decode cX10_file 52 = .ok (.iconst 0, 1) := dw_3 wX10_file_c rfl
theorem dX10_file_53 : decode cX10_file 53 = .ok (.aload_n 0, 1) := dw_42 wX10_file_c rfl
theorem dX10_file_54 : decode cX10_file 54 = .ok (.getfield 232, 3) := dw_180 wX10_file_c 0 232 rfl rfl
theorem dX10_file_57 : decode cX10_file 57 = .ok (.invokestatic 228, 3) := dw_184 wX10_file_c 0 228 rfl rfl
theorem dX10_file_60 : decode cX10_file 60 = .ok (.ifCond .eq 14, 3) := dw_153 wX10_file_c 0 14 rfl rfl rfl
theorem dX10_file_63 : decode cX10_file 63 = .ok (.iload 6, 2) := dw_21 wX10_file_c 6 rfl
theorem dX10_file_65 : decode cX10_file 65 = .ok (.iconst 0, 1) := dw_3 wX10_file_c rfl
theorem dX10_file_66 : decode cX10_file 66 = .ok (.bipush 9, 2) := dw_16 wX10_file_c 9 rfl rfl rfl
theorem dX10_file_68 : decode cX10_file 68 = .ok (.invokestatic 228, 3) := dw_184 wX10_file_c 0 228 rfl rfl
theorem dX10_file_71 : decode cX10_file 71 = .ok (.ifCond .ne 5, 3) := dw_154 wX10_file_c 0 5 rfl rfl rfl
theorem dX10_file_74 : decode cX10_file 74 = .ok (.iconst (-1), 1) := dw_2 wX10_file_c rfl
theorem dX10_file_75 : decode cX10_file 75 = .ok (.ireturn, 1) := dw_172 wX10_file_c rfl
theorem dX10_file_76 : decode cX10_file 76 = .ok (.aload_n 0, 1) := dw_42 wX10_file_c rfl
theorem dX10_file_77 : decode cX10_file 77 = .ok (.getfield 367, 3) := dw_180 wX10_file_c 1 111 rfl rfl
theorem dX10_file_80 : decode cX10_file 80 = .ok (.istore 7, 2) := dw_54 wX10_file_c 7 rfl
theorem dX10_file_82 : decode cX10_file 82 = .ok (.aload_n 0, 1) := dw_42 wX10_file_c rfl
theorem dX10_file_83 : decode cX10_file 83 = .ok (.getfield 81, 3) := dw_180 wX10_file_c 0 81 rfl rfl
theorem dX10_file_86 : decode cX10_file 86 = .ok (.iload 7, 2) := dw_21 wX10_file_c 7 rfl
theorem dX10_file_88 : decode cX10_file 88 = .ok (.iload_n 1, 1) := dw_27 wX10_file_c rfl
theorem dX10_file_89 : decode cX10_file 89 = .ok (.iastore, 1) := dw_79 wX10_file_c rfl
theorem dX10_file_90 : decode cX10_file 90 = .ok (.aload_n 0, 1) := dw_42 wX10_file_c rfl
theorem dX10_file_91 : decode cX10_file 91 = .ok (.getfield 84, 3) := dw_180 wX10_file_c 0 84 rfl rfl
theorem dX10_file_94 : decode cX10_file 94 = .ok (.iload 7, 2) := dw_21 wX10_file_c 7 rfl
theorem dX10_file_96 : decode cX10_file 96 = .ok (.iload_n 2, 1) := dw_28 wX10_file_c rfl
theorem dX10_file_97 : decode cX10_file 97 = .ok (.iastore, 1) := dw_79 wX10_file_c rfl
theorem dX10_file_98 : decode cX10_file 98 = .ok (.aload_n 0, 1) := dw_42 wX10_file_c rfl
theorem dX10_file_99 : decode cX10_file 99 = .ok (.getfield 87, 3) := dw_180 wX10_file_c 0 87 rfl rfl
theorem dX10_file_102 : decode cX10_file 102 = .ok (.iload 7, 2) := dw_21 wX10_file_c 7 rfl
theorem dX10_file_104 : decode cX10_file 104 = .ok (.iload_n 3, 1) := dw_29 wX10_file_c rfl
theorem dX10_file_105 : decode cX10_file 105 = .ok (.iastore, 1) := dw_79 wX10_file_c rfl
theorem dX10_file_106 : decode cX10_file 106 = .ok (.aload_n 0, 1) := dw_42 wX10_file_c rfl
theorem dX10_file_107 : decode cX10_file 107 = .ok (.getfield 90, 3) := dw_180 wX10_file_c 0 90 rfl rfl
theorem dX10_file_110 : decode cX10_file 110 = .ok (.iload 7, 2) := dw_21 wX10_file_c 7 rfl
theorem dX10_file_112 : decode cX10_file 112 = .ok (.iload 4, 2) := dw_21 wX10_file_c 4 rfl
theorem dX10_file_114 : decode cX10_file 114 = .ok (.iastore, 1) := dw_79 wX10_file_c rfl
theorem dX10_file_115 : decode cX10_file 115 = .ok (.aload_n 0, 1) := dw_42 wX10_file_c rfl
theorem dX10_file_116 : decode cX10_file 116 = .ok (.getfield 93, 3) := dw_180 wX10_file_c 0 93 rfl rfl
theorem dX10_file_119 : decode cX10_file 119 = .ok (.iload 7, 2) := dw_21 wX10_file_c 7 rfl
theorem dX10_file_121 : decode cX10_file 121 = .ok (.iload 5, 2) := dw_21 wX10_file_c 5 rfl
theorem dX10_file_123 : decode cX10_file 123 = .ok (.bastore, 1) := dw_84 wX10_file_c rfl
theorem dX10_file_124 : decode cX10_file 124 = .ok (.aload_n 0, 1) := dw_42 wX10_file_c rfl
theorem dX10_file_125 : decode cX10_file 125 = .ok (.getfield 96, 3) := dw_180 wX10_file_c 0 96 rfl rfl
theorem dX10_file_128 : decode cX10_file 128 = .ok (.iload 7, 2) := dw_21 wX10_file_c 7 rfl
theorem dX10_file_130 : decode cX10_file 130 = .ok (.iload 6, 2) := dw_21 wX10_file_c 6 rfl
theorem dX10_file_132 : decode cX10_file 132 = .ok (.iastore, 1) := dw_79 wX10_file_c rfl
theorem dX10_file_133 : decode cX10_file 133 = .ok (.aload_n 0, 1) := dw_42 wX10_file_c rfl
theorem dX10_file_134 : decode cX10_file 134 = .ok (.getfield 99, 3) := dw_180 wX10_file_c 0 99 rfl rfl
theorem dX10_file_137 : decode cX10_file 137 = .ok (.iload 7, 2) := dw_21 wX10_file_c 7 rfl
theorem dX10_file_139 : decode cX10_file 139 = .ok (.aload_n 0, 1) := dw_42 wX10_file_c rfl
theorem dX10_file_140 : decode cX10_file 140 = .ok (.getfield 232, 3) := dw_180 wX10_file_c 0 232 rfl rfl
theorem dX10_file_143 : decode cX10_file 143 = .ok (.iastore, 1) := dw_79 wX10_file_c rfl
theorem dX10_file_144 : decode cX10_file 144 = .ok (.aload_n 0, 1) := dw_42 wX10_file_c rfl
theorem dX10_file_145 : decode cX10_file 145 = .ok (.getfield 102, 3) := dw_180 wX10_file_c 0 102 rfl rfl
theorem dX10_file_148 : decode cX10_file 148 = .ok (.iload 7, 2) := dw_21 wX10_file_c 7 rfl
theorem dX10_file_150 : decode cX10_file 150 = .ok (.aload_n 0, 1) := dw_42 wX10_file_c rfl
theorem dX10_file_151 : decode cX10_file 151 = .ok (.aload_n 0, 1) := dw_42 wX10_file_c rfl
theorem dX10_file_152 : decode cX10_file 152 = .ok (.getfield 232, 3) := dw_180 wX10_file_c 0 232 rfl rfl
theorem dX10_file_155 : decode cX10_file 155 = .ok (.invokevirtual 330, 3) := dw_182 wX10_file_c 1 74 rfl rfl
theorem dX10_file_158 : decode cX10_file 158 = .ok (.iastore, 1) := dw_79 wX10_file_c rfl
theorem dX10_file_159 : decode cX10_file 159 = .ok (.aload_n 0, 1) := dw_42 wX10_file_c rfl
theorem dX10_file_160 : decode cX10_file 160 = .ok (.getfield 108, 3) := dw_180 wX10_file_c 0 108 rfl rfl
theorem dX10_file_163 : decode cX10_file 163 = .ok (.iload 7, 2) := dw_21 wX10_file_c 7 rfl
theorem dX10_file_165 : decode cX10_file 165 = .ok (.iconst (-1), 1) := dw_2 wX10_file_c rfl
theorem dX10_file_166 : decode cX10_file 166 = .ok (.iastore, 1) := dw_79 wX10_file_c rfl
theorem dX10_file_167 : decode cX10_file 167 = .ok (.aload_n 0, 1) := dw_42 wX10_file_c rfl
theorem dX10_file_168 : decode cX10_file 168 = .ok (.getfield 111, 3) := dw_180 wX10_file_c 0 111 rfl rfl
theorem dX10_file_171 : decode cX10_file 171 = .ok (.iload 7, 2) := dw_21 wX10_file_c 7 rfl
theorem dX10_file_173 : decode cX10_file 173 = .ok (.iconst (-1), 1) := dw_2 wX10_file_c rfl
theorem dX10_file_174 : decode cX10_file 174 = .ok (.iastore, 1) := dw_79 wX10_file_c rfl
theorem dX10_file_175 : decode cX10_file 175 = .ok (.aload_n 0, 1) := dw_42 wX10_file_c rfl
theorem dX10_file_176 : decode cX10_file 176 = .ok (.getfield 114, 3) := dw_180 wX10_file_c 0 114 rfl rfl
theorem dX10_file_179 : decode cX10_file 179 = .ok (.iload 7, 2) := dw_21 wX10_file_c 7 rfl
theorem dX10_file_181 : decode cX10_file 181 = .ok (.iconst (-1), 1) := dw_2 wX10_file_c rfl
theorem dX10_file_182 : decode cX10_file 182 = .ok (.iastore, 1) := dw_79 wX10_file_c rfl
theorem dX10_file_183 : decode cX10_file 183 = .ok (.aload_n 0, 1) := dw_42 wX10_file_c rfl
theorem dX10_file_184 : decode cX10_file 184 = .ok (.getfield 117, 3) := dw_180 wX10_file_c 0 117 rfl rfl
theorem dX10_file_187 : decode cX10_file 187 = .ok (.iload 7, 2) := dw_21 wX10_file_c 7 rfl
theorem dX10_file_189 : decode cX10_file 189 = .ok (.iconst (-1), 1) := dw_2 wX10_file_c rfl
theorem dX10_file_190 : decode cX10_file 190 = .ok (.iastore, 1) := dw_79 wX10_file_c rfl
theorem dX10_file_191 : decode cX10_file 191 = .ok (.aload_n 0, 1) := dw_42 wX10_file_c rfl
theorem dX10_file_192 : decode cX10_file 192 = .ok (.getfield 120, 3) := dw_180 wX10_file_c 0 120 rfl rfl
theorem dX10_file_195 : decode cX10_file 195 = .ok (.iload 7, 2) := dw_21 wX10_file_c 7 rfl
theorem dX10_file_197 : decode cX10_file 197 = .ok (.iconst (-1), 1) := dw_2 wX10_file_c rfl
theorem dX10_file_198 : decode cX10_file 198 = .ok (.iastore, 1) := dw_79 wX10_file_c rfl
theorem dX10_file_199 : decode cX10_file 199 = .ok (.iconst 0, 1) := dw_3 wX10_file_c rfl
theorem dX10_file_200 : decode cX10_file 200 = .ok (.istore 8, 2) := dw_54 wX10_file_c 8 rfl
theorem dX10_file_202 : decode cX10_file 202 = .ok (.iload 8, 2) := dw_21 wX10_file_c 8 rfl
theorem dX10_file_204 : decode cX10_file 204 = .ok (.iconst 3, 1) := dw_6 wX10_file_c rfl
theorem dX10_file_205 : decode cX10_file 205 = .ok (.if_icmp .ge 22, 3) := dw_162 wX10_file_c 0 22 rfl rfl rfl
theorem dX10_file_208 : decode cX10_file 208 = .ok (.aload_n 0, 1) := dw_42 wX10_file_c rfl
theorem dX10_file_209 : decode cX10_file 209 = .ok (.getfield 126, 3) := dw_180 wX10_file_c 0 126 rfl rfl
theorem dX10_file_212 : decode cX10_file 212 = .ok (.iconst 3, 1) := dw_6 wX10_file_c rfl
theorem dX10_file_213 : decode cX10_file 213 = .ok (.iload 7, 2) := dw_21 wX10_file_c 7 rfl
theorem dX10_file_215 : decode cX10_file 215 = .ok (.imul, 1) := dw_104 wX10_file_c rfl
theorem dX10_file_216 : decode cX10_file 216 = .ok (.iload 8, 2) := dw_21 wX10_file_c 8 rfl
theorem dX10_file_218 : decode cX10_file 218 = .ok (.iadd, 1) := dw_96 wX10_file_c rfl
theorem dX10_file_219 : decode cX10_file 219 = .ok (.iconst (-1), 1) := dw_2 wX10_file_c rfl
theorem dX10_file_220 : decode cX10_file 220 = .ok (.iastore, 1) := dw_79 wX10_file_c rfl
theorem dX10_file_221 : decode cX10_file 221 = .ok (.iinc 8 1, 3) := dw_132 wX10_file_c 8 1 rfl rfl rfl
theorem dX10_file_224 : decode cX10_file 224 = .ok (.goto (-22), 3) := dn_167 wX10_file_c 255 234 rfl (by decide)
theorem dX10_file_227 : decode cX10_file 227 = .ok (.aload_n 0, 1) := dw_42 wX10_file_c rfl
theorem dX10_file_228 : decode cX10_file 228 = .ok (.dup, 1) := dw_89 wX10_file_c rfl
theorem dX10_file_229 : decode cX10_file 229 = .ok (.getfield 367, 3) := dw_180 wX10_file_c 1 111 rfl rfl
theorem dX10_file_232 : decode cX10_file 232 = .ok (.iconst 1, 1) := dw_4 wX10_file_c rfl
theorem dX10_file_233 : decode cX10_file 233 = .ok (.iadd, 1) := dw_96 wX10_file_c rfl
theorem dX10_file_234 : decode cX10_file 234 = .ok (.putfield 367, 3) := dw_181 wX10_file_c 1 111 rfl rfl
theorem dX10_file_237 : decode cX10_file 237 = .ok (.iload 7, 2) := dw_21 wX10_file_c 7 rfl
theorem dX10_file_239 : decode cX10_file 239 = .ok (.ireturn, 1) := dw_172 wX10_file_c rfl
end
section
theorem dX10_weeksOf_0 : decode cX10_weeksOf 0 = .ok (.aload_n 0, 1) := by decide +kernel
theorem dX10_weeksOf_1 : decode cX10_weeksOf 1 = .ok (.getfield 177, 3) := by decide +kernel
theorem dX10_weeksOf_4 : decode cX10_weeksOf 4 = .ok (.iload_n 1, 1) := by decide +kernel
theorem dX10_weeksOf_5 : decode cX10_weeksOf 5 = .ok (.iaload, 1) := by decide +kernel
theorem dX10_weeksOf_6 : decode cX10_weeksOf 6 = .ok (.iload_n 2, 1) := by decide +kernel
theorem dX10_weeksOf_7 : decode cX10_weeksOf 7 = .ok (.iload_n 3, 1) := by decide +kernel
theorem dX10_weeksOf_8 : decode cX10_weeksOf 8 = .ok (.imul, 1) := by decide +kernel
theorem dX10_weeksOf_9 : decode cX10_weeksOf 9 = .ok (.iadd, 1) := by decide +kernel
theorem dX10_weeksOf_10 : decode cX10_weeksOf 10 = .ok (.istore 4, 2) := by decide +kernel
theorem dX10_weeksOf_12 : decode cX10_weeksOf 12 = .ok (.aload_n 0, 1) := by decide +kernel
theorem dX10_weeksOf_13 : decode cX10_weeksOf 13 = .ok (.getfield 174, 3) := by decide +kernel
theorem dX10_weeksOf_16 : decode cX10_weeksOf 16 = .ok (.iload_n 1, 1) := by decide +kernel
theorem dX10_weeksOf_17 : decode cX10_weeksOf 17 = .ok (.iaload, 1) := by decide +kernel
theorem dX10_weeksOf_18 : decode cX10_weeksOf 18 = .ok (.iload 4, 2) := by decide +kernel
theorem dX10_weeksOf_20 : decode cX10_weeksOf 20 = .ok (.iadd, 1) := by decide +kernel
theorem dX10_weeksOf_21 : decode cX10_weeksOf 21 = .ok (.iconst 1, 1) := by decide +kernel
theorem dX10_weeksOf_22 : decode cX10_weeksOf 22 = .ok (.isub, 1) := by decide +kernel
theorem dX10_weeksOf_23 : decode cX10_weeksOf 23 = .ok (.iload 4, 2) := by decide +kernel
theorem dX10_weeksOf_25 : decode cX10_weeksOf 25 = .ok (.idiv, 1) := by decide +kernel
theorem dX10_weeksOf_26 : decode cX10_weeksOf 26 = .ok (.ireturn, 1) := by decide +kernel
def wNX10_plan : Nat := 262561038005215289767552208456793037325545967589197935550019451761172642780494932453543665110558174406611087459015676134520782371411733191055724713485986346413857372447593843214361941936669669304780532797969823554144228907294548323516562665724890304485354766194323820032000274351887737675721758642803553656824960324031709223749244663897182852249829463321823041462707120051033101464440593109113592956516159297709013891503062687189244108940068782151324612852052605882510892007111360575024402541750521783980287575757656268037236107199633559857885352695081454026907193953843193459062341943148827437471524664366596864880127186963783424555675695088445800483686113492861674146583397287425867708624689351163773640646675699182133521459802772194830856659142999109478020332297926439742351092019452209671116693751332317392658391169433700159492008391403812296970966579862491476831586013299266389579803387312261388608653016715007687205965295106898879573422420189485243951488607458489248696314713807300475367695077869023356330939644340830435836435347746003977724784953649150522190299819645650805420368348950135174847437559565062404787459234766821080174534594882504371556430603592049101979825023557240075871153824291148460316052126828780500922191313662917464367091531308083772131189383151613419854634
theorem wX10_plan_c : hz_cd cX10_plan wNX10_plan 533 := ⟨by decide +kernel, by decide +kernel⟩
theorem dX10_plan_0 : decode cX10_plan 0 = .ok (.aload_n 0, 1) := dw_42 wX10_plan_c rfl
theorem dX10_plan_1 : decode cX10_plan 1 = .ok (.iload_n 1, 1) := dw_27 wX10_plan_c rfl
theorem dX10_plan_2 : decode cX10_plan 2 = .ok (.invokevirtual 348, 3) := dw_182 wX10_plan_c 1 92 rfl rfl
theorem dX10_plan_5 : decode cX10_plan 5 = .ok (.ifCond .eq 13, 3) := dw_153 wX10_plan_c 0 13 rfl rfl rfl
theorem dX10_plan_8 : decode cX10_plan 8 = .ok (.iload_n 2, 1) := dw_28 wX10_plan_c rfl
theorem dX10_plan_9 : decode cX10_plan 9 = .ok (.iconst 1, 1) := dw_4 wX10_plan_c rfl
theorem dX10_plan_10 : decode cX10_plan 10 = .ok (.bipush 99, 2) := dw_16 wX10_plan_c 99 rfl rfl rfl
theorem dX10_plan_12 : decode cX10_plan 12 = .ok (.invokestatic 228, 3) := dw_184 wX10_plan_c 0 228 rfl rfl
theorem dX10_plan_15 : decode cX10_plan 15 = .ok (.ifCond .ne 5, 3) := dw_154 wX10_plan_c 0 5 rfl rfl rfl
theorem dX10_plan_18 : decode cX10_plan 18 = .ok (.iconst (-1), 1) := dw_2 wX10_plan_c rfl
theorem dX10_plan_19 : decode cX10_plan 19 = .ok (.ireturn, 1) := dw_172 wX10_plan_c rfl
theorem dX10_plan_20 : decode cX10_plan 20 = .ok (.aload_n 0, 1) := dw_42 wX10_plan_c rfl
theorem dX10_plan_21 : decode cX10_plan 21 = .ok (.iconst 0, 1) := dw_3 wX10_plan_c rfl
theorem dX10_plan_22 : decode cX10_plan 22 = .ok (.putfield 428, 3) := dw_181 wX10_plan_c 1 172 rfl rfl
theorem dX10_plan_25 : decode cX10_plan 25 = .ok (.iconst 0, 1) := dw_3 wX10_plan_c rfl
theorem dX10_plan_26 : decode cX10_plan 26 = .ok (.istore_n 3, 1) := dw_62 wX10_plan_c rfl
theorem dX10_plan_27 : decode cX10_plan 27 = .ok (.iload_n 3, 1) := dw_29 wX10_plan_c rfl
theorem dX10_plan_28 : decode cX10_plan 28 = .ok (.aload_n 0, 1) := dw_42 wX10_plan_c rfl
theorem dX10_plan_29 : decode cX10_plan 29 = .ok (.getfield 367, 3) := dw_180 wX10_plan_c 1 111 rfl rfl
theorem dX10_plan_32 : decode cX10_plan 32 = .ok (.if_icmp .ge 123, 3) := dw_162 wX10_plan_c 0 123 rfl rfl rfl
theorem dX10_plan_35 : decode cX10_plan 35 = .ok (.aload_n 0, 1) := dw_42 wX10_plan_c rfl
theorem dX10_plan_36 : decode cX10_plan 36 = .ok (.getfield 84, 3) := dw_180 wX10_plan_c 0 84 rfl rfl
theorem dX10_plan_39 : decode cX10_plan 39 = .ok (.iload_n 3, 1) := dw_29 wX10_plan_c rfl
theorem dX10_plan_40 : decode cX10_plan 40 = .ok (.iaload, 1) := dw_46 wX10_plan_c rfl
theorem dX10_plan_41 : decode cX10_plan 41 = .ok (.iload_n 1, 1) := dw_27 wX10_plan_c rfl
theorem dX10_plan_42 : decode cX10_plan 42 = .ok (.if_icmp .ne 107, 3) := dw_160 wX10_plan_c 0 107 rfl rfl rfl
theorem dX10_plan_45 : decode cX10_plan 45 = .ok (.aload_n 0, 1) := dw_42 wX10_plan_c rfl
theorem dX10_plan_46 : decode cX10_plan 46 = .ok (.iload_n 3, 1) := dw_29 wX10_plan_c rfl
theorem dX10_plan_47 : decode cX10_plan 47 = .ok (.invokevirtual 419, 3) := dw_182 wX10_plan_c 1 163 rfl rfl
theorem dX10_plan_50 : decode cX10_plan 50 = .ok (.ifCond .ne 6, 3) := dw_154 wX10_plan_c 0 6 rfl rfl rfl
theorem dX10_plan_53 : decode cX10_plan 53 = .ok (.goto 96, 3) := dw_167 wX10_plan_c 0 96 rfl rfl rfl
theorem dX10_plan_56 : decode cX10_plan 56 = .ok (.aload_n 0, 1) := dw_42 wX10_plan_c rfl
theorem dX10_plan_57 : decode cX10_plan 57 = .ok (.getfield 428, 3) := dw_180 wX10_plan_c 1 172 rfl rfl
theorem dX10_plan_60 : decode cX10_plan 60 = .ok (.iconst 4, 1) := dw_7 wX10_plan_c rfl
theorem dX10_plan_61 : decode cX10_plan 61 = .ok (.if_icmp .ne 5, 3) := dw_160 wX10_plan_c 0 5 rfl rfl rfl
theorem dX10_plan_64 : decode cX10_plan 64 = .ok (.iconst (-1), 1) := dw_2 wX10_plan_c rfl
theorem dX10_plan_65 : decode cX10_plan 65 = .ok (.ireturn, 1) := dw_172 wX10_plan_c rfl
theorem dX10_plan_66 : decode cX10_plan 66 = .ok (.aload_n 0, 1) := dw_42 wX10_plan_c rfl
theorem dX10_plan_67 : decode cX10_plan 67 = .ok (.aload_n 0, 1) := dw_42 wX10_plan_c rfl
theorem dX10_plan_68 : decode cX10_plan 68 = .ok (.getfield 102, 3) := dw_180 wX10_plan_c 0 102 rfl rfl
theorem dX10_plan_71 : decode cX10_plan 71 = .ok (.iload_n 3, 1) := dw_29 wX10_plan_c rfl
theorem dX10_plan_72 : decode cX10_plan 72 = .ok (.iaload, 1) := dw_46 wX10_plan_c rfl
theorem dX10_plan_73 : decode cX10_plan 73 = .ok (.iconst 2, 1) := dw_5 wX10_plan_c rfl
theorem dX10_plan_74 : decode cX10_plan 74 = .ok (.invokevirtual 333, 3) := dw_182 wX10_plan_c 1 77 rfl rfl
theorem dX10_plan_77 : decode cX10_plan 77 = .ok (.istore 4, 2) := dw_54 wX10_plan_c 4 rfl
theorem dX10_plan_79 : decode cX10_plan 79 = .ok (.aload_n 0, 1) := dw_42 wX10_plan_c rfl
theorem dX10_plan_80 : decode cX10_plan 80 = .ok (.getfield 171, 3) := dw_180 wX10_plan_c 0 171 rfl rfl
theorem dX10_plan_83 : decode cX10_plan 83 = .ok (.aload_n 0, 1) := dw_42 wX10_plan_c rfl
theorem dX10_plan_84 : decode cX10_plan 84 = .ok (.getfield 428, 3) := dw_180 wX10_plan_c 1 172 rfl rfl
theorem dX10_plan_87 : decode cX10_plan 87 = .ok (.iload_n 3, 1) := dw_29 wX10_plan_c rfl
theorem dX10_plan_88 : decode cX10_plan 88 = .ok (.iastore, 1) := dw_79 wX10_plan_c rfl
theorem dX10_plan_89 : decode cX10_plan 89 = .ok (.aload_n 0, 1) := dw_42 wX10_plan_c rfl
theorem dX10_plan_90 : decode cX10_plan 90 = .ok (.getfield 174, 3) := dw_180 wX10_plan_c 0 174 rfl rfl
theorem dX10_plan_93 : decode cX10_plan 93 = .ok (.aload_n 0, 1) := dw_42 wX10_plan_c rfl
theorem dX10_plan_94 : decode cX10_plan 94 = .ok (.getfield 428, 3) := dw_180 wX10_plan_c 1 172 rfl rfl
theorem dX10_plan_97 : decode cX10_plan 97 = .ok (.aload_n 0, 1) := dw_42 wX10_plan_c rfl
theorem dX10_plan_98 : decode cX10_plan 98 = .ok (.getfield 401, 3) := dw_180 wX10_plan_c 1 145 rfl rfl
theorem dX10_plan_101 : decode cX10_plan 101 = .ok (.iastore, 1) := dw_79 wX10_plan_c rfl
theorem dX10_plan_102 : decode cX10_plan 102 = .ok (.aload_n 0, 1) := dw_42 wX10_plan_c rfl
theorem dX10_plan_103 : decode cX10_plan 103 = .ok (.getfield 177, 3) := dw_180 wX10_plan_c 0 177 rfl rfl
theorem dX10_plan_106 : decode cX10_plan 106 = .ok (.aload_n 0, 1) := dw_42 wX10_plan_c rfl
theorem dX10_plan_107 : decode cX10_plan 107 = .ok (.getfield 428, 3) := dw_180 wX10_plan_c 1 172 rfl rfl
theorem dX10_plan_110 : decode cX10_plan 110 = .ok (.iload 4, 2) := dw_21 wX10_plan_c 4 rfl
theorem dX10_plan_112 : decode cX10_plan 112 = .ok (.aload_n 0, 1) := dw_42 wX10_plan_c rfl
theorem dX10_plan_113 : decode cX10_plan 113 = .ok (.getfield 401, 3) := dw_180 wX10_plan_c 1 145 rfl rfl
theorem dX10_plan_116 : decode cX10_plan 116 = .ok (.if_icmp .ge 8, 3) := dw_162 wX10_plan_c 0 8 rfl rfl rfl
theorem dX10_plan_119 : decode cX10_plan 119 = .ok (.iload 4, 2) := dw_21 wX10_plan_c 4 rfl
theorem dX10_plan_121 : decode cX10_plan 121 = .ok (.goto 7, 3) := dw_167 wX10_plan_c 0 7 rfl rfl rfl
theorem dX10_plan_124 : decode cX10_plan 124 = .ok (.aload_n 0, 1) := dw_42 wX10_plan_c rfl
theorem dX10_plan_125 : decode cX10_plan 125 = .ok (.getfield 401, 3) := dw_180 wX10_plan_c 1 145 rfl rfl
theorem dX10_plan_128 : decode cX10_plan 128 = .ok (.iastore, 1) := dw_79 wX10_plan_c rfl
theorem dX10_plan_129 : decode cX10_plan 129 = .ok (.aload_n 0, 1) := dw_42 wX10_plan_c rfl
theorem dX10_plan_130 : decode cX10_plan 130 = .ok (.getfield 180, 3) := dw_180 wX10_plan_c 0 180 rfl rfl
theorem dX10_plan_133 : decode cX10_plan 133 = .ok (.aload_n 0, 1) := dw_42 wX10_plan_c rfl
theorem dX10_plan_134 : decode cX10_plan 134 = .ok (.getfield 428, 3) := dw_180 wX10_plan_c 1 172 rfl rfl
theorem dX10_plan_137 : decode cX10_plan 137 = .ok (.iconst 0, 1) := dw_3 wX10_plan_c rfl
theorem dX10_plan_138 : decode cX10_plan 138 = .ok (.iastore, 1) := dw_79 wX10_plan_c rfl
theorem dX10_plan_139 : decode cX10_plan 139 = .ok (.aload_n 0, 1) := dw_42 wX10_plan_c rfl
theorem dX10_plan_140 : decode cX10_plan 140 = .ok (.dup, 1) := dw_89 wX10_plan_c rfl
theorem dX10_plan_141 : decode cX10_plan 141 = .ok (.getfield 428, 3) := dw_180 wX10_plan_c 1 172 rfl rfl
theorem dX10_plan_144 : decode cX10_plan 144 = .ok (.iconst 1, 1) := dw_4 wX10_plan_c rfl
theorem dX10_plan_145 : decode cX10_plan 145 = .ok (.iadd, 1) := dw_96 wX10_plan_c rfl
theorem dX10_plan_146 : decode cX10_plan 146 = .ok (.putfield 428, 3) := dw_181 wX10_plan_c 1 172 rfl rfl
theorem dX10_plan_149 : decode cX10_plan 149 = .ok (.iinc 3 1, 3) := dw_132 wX10_plan_c 3 1 rfl rfl rfl
theorem dX10_plan_152 : decode cX10_plan 152 = .ok (.goto (-125), 3) := dn_167 wX10_plan_c 255 131 rfl (by decide)
theorem dX10_plan_155 : decode cX10_plan 155 = .ok (.aload_n 0, 1) := dw_42 wX10_plan_c rfl
theorem dX10_plan_156 : decode cX10_plan 156 = .ok (.iload_n 1, 1) := dw_27 wX10_plan_c rfl
theorem dX10_plan_157 : decode cX10_plan 157 = .ok (.aload_n 0, 1) := dw_42 wX10_plan_c rfl
theorem dX10_plan_158 : decode cX10_plan 158 = .ok (.aload_n 0, 1) := dw_42 wX10_plan_c rfl
theorem dX10_plan_159 : decode cX10_plan 159 = .ok (.getfield 232, 3) := dw_180 wX10_plan_c 0 232 rfl rfl
theorem dX10_plan_162 : decode cX10_plan 162 = .ok (.invokevirtual 330, 3) := dw_182 wX10_plan_c 1 74 rfl rfl
theorem dX10_plan_165 : decode cX10_plan 165 = .ok (.invokevirtual 422, 3) := dw_182 wX10_plan_c 1 166 rfl rfl
theorem dX10_plan_168 : decode cX10_plan 168 = .ok (.istore_n 3, 1) := dw_62 wX10_plan_c rfl
theorem dX10_plan_169 : decode cX10_plan 169 = .ok (.aload_n 0, 1) := dw_42 wX10_plan_c rfl
theorem dX10_plan_170 : decode cX10_plan 170 = .ok (.getfield 428, 3) := dw_180 wX10_plan_c 1 172 rfl rfl
theorem dX10_plan_173 : decode cX10_plan 173 = .ok (.ifCond .ne 7, 3) := dw_154 wX10_plan_c 0 7 rfl rfl rfl
theorem dX10_plan_176 : decode cX10_plan 176 = .ok (.iconst 0, 1) := dw_3 wX10_plan_c rfl
theorem dX10_plan_177 : decode cX10_plan 177 = .ok (.goto 6, 3) := dw_167 wX10_plan_c 0 6 rfl rfl rfl
theorem dX10_plan_180 : decode cX10_plan 180 = .ok (.ldc_w 431, 3) := dw_19 wX10_plan_c 1 175 rfl rfl
theorem dX10_plan_183 : decode cX10_plan 183 = .ok (.istore 4, 2) := dw_54 wX10_plan_c 4 rfl
theorem dX10_plan_185 : decode cX10_plan 185 = .ok (.ldc_w 431, 3) := dw_19 wX10_plan_c 1 175 rfl rfl
theorem dX10_plan_188 : decode cX10_plan 188 = .ok (.istore 5, 2) := dw_54 wX10_plan_c 5 rfl
theorem dX10_plan_190 : decode cX10_plan 190 = .ok (.aload_n 0, 1) := dw_42 wX10_plan_c rfl
theorem dX10_plan_191 : decode cX10_plan 191 = .ok (.getfield 428, 3) := dw_180 wX10_plan_c 1 172 rfl rfl
theorem dX10_plan_194 : decode cX10_plan 194 = .ok (.ifCond .le 7, 3) := dw_158 wX10_plan_c 0 7 rfl rfl rfl
theorem dX10_plan_197 : decode cX10_plan 197 = .ok (.iconst 1, 1) := dw_4 wX10_plan_c rfl
theorem dX10_plan_198 : decode cX10_plan 198 = .ok (.goto 4, 3) := dw_167 wX10_plan_c 0 4 rfl rfl rfl
theorem dX10_plan_201 : decode cX10_plan 201 = .ok (.iconst 0, 1) := dw_3 wX10_plan_c rfl
theorem dX10_plan_202 : decode cX10_plan 202 = .ok (.istore 6, 2) := dw_54 wX10_plan_c 6 rfl
theorem dX10_plan_204 : decode cX10_plan 204 = .ok (.iload 6, 2) := dw_21 wX10_plan_c 6 rfl
theorem dX10_plan_206 : decode cX10_plan 206 = .ok (.ifCond .eq 228, 3) := dw_153 wX10_plan_c 0 228 rfl rfl rfl
theorem dX10_plan_209 : decode cX10_plan 209 = .ok (.iconst 0, 1) := dw_3 wX10_plan_c rfl
theorem dX10_plan_210 : decode cX10_plan 210 = .ok (.istore 7, 2) := dw_54 wX10_plan_c 7 rfl
theorem dX10_plan_212 : decode cX10_plan 212 = .ok (.iconst 0, 1) := dw_3 wX10_plan_c rfl
theorem dX10_plan_213 : decode cX10_plan 213 = .ok (.istore 8, 2) := dw_54 wX10_plan_c 8 rfl
theorem dX10_plan_215 : decode cX10_plan 215 = .ok (.iconst 0, 1) := dw_3 wX10_plan_c rfl
theorem dX10_plan_216 : decode cX10_plan 216 = .ok (.istore 9, 2) := dw_54 wX10_plan_c 9 rfl
theorem dX10_plan_218 : decode cX10_plan 218 = .ok (.iconst 0, 1) := dw_3 wX10_plan_c rfl
theorem dX10_plan_219 : decode cX10_plan 219 = .ok (.istore 10, 2) := dw_54 wX10_plan_c 10 rfl
theorem dX10_plan_221 : decode cX10_plan 221 = .ok (.iload 10, 2) := dw_21 wX10_plan_c 10 rfl
theorem dX10_plan_223 : decode cX10_plan 223 = .ok (.aload_n 0, 1) := dw_42 wX10_plan_c rfl
theorem dX10_plan_224 : decode cX10_plan 224 = .ok (.getfield 428, 3) := dw_180 wX10_plan_c 1 172 rfl rfl
theorem dX10_plan_227 : decode cX10_plan 227 = .ok (.if_icmp .ge 70, 3) := dw_162 wX10_plan_c 0 70 rfl rfl rfl
theorem dX10_plan_230 : decode cX10_plan 230 = .ok (.aload_n 0, 1) := dw_42 wX10_plan_c rfl
theorem dX10_plan_231 : decode cX10_plan 231 = .ok (.iload 10, 2) := dw_21 wX10_plan_c 10 rfl
theorem dX10_plan_233 : decode cX10_plan 233 = .ok (.aload_n 0, 1) := dw_42 wX10_plan_c rfl
theorem dX10_plan_234 : decode cX10_plan 234 = .ok (.getfield 180, 3) := dw_180 wX10_plan_c 0 180 rfl rfl
theorem dX10_plan_237 : decode cX10_plan 237 = .ok (.iload 10, 2) := dw_21 wX10_plan_c 10 rfl
theorem dX10_plan_239 : decode cX10_plan 239 = .ok (.iaload, 1) := dw_46 wX10_plan_c rfl
theorem dX10_plan_240 : decode cX10_plan 240 = .ok (.iload_n 2, 1) := dw_28 wX10_plan_c rfl
theorem dX10_plan_241 : decode cX10_plan 241 = .ok (.invokevirtual 432, 3) := dw_182 wX10_plan_c 1 176 rfl rfl
theorem dX10_plan_244 : decode cX10_plan 244 = .ok (.istore 11, 2) := dw_54 wX10_plan_c 11 rfl
theorem dX10_plan_246 : decode cX10_plan 246 = .ok (.iload 7, 2) := dw_21 wX10_plan_c 7 rfl
theorem dX10_plan_248 : decode cX10_plan 248 = .ok (.aload_n 0, 1) := dw_42 wX10_plan_c rfl
theorem dX10_plan_249 : decode cX10_plan 249 = .ok (.getfield 177, 3) := dw_180 wX10_plan_c 0 177 rfl rfl
theorem dX10_plan_252 : decode cX10_plan 252 = .ok (.iload 10, 2) := dw_21 wX10_plan_c 10 rfl
theorem dX10_plan_254 : decode cX10_plan 254 = .ok (.iaload, 1) := dw_46 wX10_plan_c rfl
theorem dX10_plan_255 : decode cX10_plan 255 = .ok (.aload_n 0, 1) := dw_42 wX10_plan_c rfl
theorem dX10_plan_256 : decode cX10_plan 256 = .ok (.getfield 180, 3) := dw_180 wX10_plan_c 0 180 rfl rfl
theorem dX10_plan_259 : decode cX10_plan 259 = .ok (.iload 10, 2) := dw_21 wX10_plan_c 10 rfl
theorem dX10_plan_261 : decode cX10_plan 261 = .ok (.iaload, 1) := dw_46 wX10_plan_c rfl
theorem dX10_plan_262 : decode cX10_plan 262 = .ok (.iload_n 2, 1) := dw_28 wX10_plan_c rfl
theorem dX10_plan_263 : decode cX10_plan 263 = .ok (.imul, 1) := dw_104 wX10_plan_c rfl
theorem dX10_plan_264 : decode cX10_plan 264 = .ok (.iadd, 1) := dw_96 wX10_plan_c rfl
theorem dX10_plan_265 : decode cX10_plan 265 = .ok (.iadd, 1) := dw_96 wX10_plan_c rfl
theorem dX10_plan_266 : decode cX10_plan 266 = .ok (.istore 7, 2) := dw_54 wX10_plan_c 7 rfl
theorem dX10_plan_268 : decode cX10_plan 268 = .ok (.iload 11, 2) := dw_21 wX10_plan_c 11 rfl
theorem dX10_plan_270 : decode cX10_plan 270 = .ok (.iload 8, 2) := dw_21 wX10_plan_c 8 rfl
theorem dX10_plan_272 : decode cX10_plan 272 = .ok (.if_icmp .le 8, 3) := dw_164 wX10_plan_c 0 8 rfl rfl rfl
theorem dX10_plan_275 : decode cX10_plan 275 = .ok (.iload 11, 2) := dw_21 wX10_plan_c 11 rfl
theorem dX10_plan_277 : decode cX10_plan 277 = .ok (.goto 5, 3) := dw_167 wX10_plan_c 0 5 rfl rfl rfl
theorem dX10_plan_280 : decode cX10_plan 280 = .ok (.iload 8, 2) := dw_21 wX10_plan_c 8 rfl
theorem dX10_plan_282 : decode cX10_plan 282 = .ok (.istore 8, 2) := dw_54 wX10_plan_c 8 rfl
theorem dX10_plan_284 : decode cX10_plan 284 = .ok (.iload 9, 2) := dw_21 wX10_plan_c 9 rfl
theorem dX10_plan_286 : decode cX10_plan 286 = .ok (.iload 11, 2) := dw_21 wX10_plan_c 11 rfl
theorem dX10_plan_288 : decode cX10_plan 288 = .ok (.iadd, 1) := dw_96 wX10_plan_c rfl
theorem dX10_plan_289 : decode cX10_plan 289 = .ok (.istore 9, 2) := dw_54 wX10_plan_c 9 rfl
theorem dX10_plan_291 : decode cX10_plan 291 = .ok (.iinc 10 1, 3) := dw_132 wX10_plan_c 10 1 rfl rfl rfl
theorem dX10_plan_294 : decode cX10_plan 294 = .ok (.goto (-73), 3) := dn_167 wX10_plan_c 255 183 rfl (by decide)
theorem dX10_plan_297 : decode cX10_plan 297 = .ok (.iload 7, 2) := dw_21 wX10_plan_c 7 rfl
theorem dX10_plan_299 : decode cX10_plan 299 = .ok (.iload_n 3, 1) := dw_29 wX10_plan_c rfl
theorem dX10_plan_300 : decode cX10_plan 300 = .ok (.if_icmp .gt 64, 3) := dw_163 wX10_plan_c 0 64 rfl rfl rfl
theorem dX10_plan_303 : decode cX10_plan 303 = .ok (.iload 8, 2) := dw_21 wX10_plan_c 8 rfl
theorem dX10_plan_305 : decode cX10_plan 305 = .ok (.iload 4, 2) := dw_21 wX10_plan_c 4 rfl
theorem dX10_plan_307 : decode cX10_plan 307 = .ok (.if_icmp .lt 17, 3) := dw_161 wX10_plan_c 0 17 rfl rfl rfl
theorem dX10_plan_310 : decode cX10_plan 310 = .ok (.iload 8, 2) := dw_21 wX10_plan_c 8 rfl
theorem dX10_plan_312 : decode cX10_plan 312 = .ok (.iload 4, 2) := dw_21 wX10_plan_c 4 rfl
theorem dX10_plan_314 : decode cX10_plan 314 = .ok (.if_icmp .ne 50, 3) := dw_160 wX10_plan_c 0 50 rfl rfl rfl
theorem dX10_plan_317 : decode cX10_plan 317 = .ok (.iload 9, 2) := dw_21 wX10_plan_c 9 rfl
theorem dX10_plan_319 : decode cX10_plan 319 = .ok (.iload 5, 2) := dw_21 wX10_plan_c 5 rfl
theorem dX10_plan_321 : decode cX10_plan 321 = .ok (.if_icmp .ge 43, 3) := dw_162 wX10_plan_c 0 43 rfl rfl rfl
theorem dX10_plan_324 : decode cX10_plan 324 = .ok (.iload 8, 2) := dw_21 wX10_plan_c 8 rfl
theorem dX10_plan_326 : decode cX10_plan 326 = .ok (.istore 4, 2) := dw_54 wX10_plan_c 4 rfl
theorem dX10_plan_328 : decode cX10_plan 328 = .ok (.iload 9, 2) := dw_21 wX10_plan_c 9 rfl
theorem dX10_plan_330 : decode cX10_plan 330 = .ok (.istore 5, 2) := dw_54 wX10_plan_c 5 rfl
theorem dX10_plan_332 : decode cX10_plan 332 = .ok (.iconst 0, 1) := dw_3 wX10_plan_c rfl
theorem dX10_plan_333 : decode cX10_plan 333 = .ok (.istore 10, 2) := dw_54 wX10_plan_c 10 rfl
theorem dX10_plan_335 : decode cX10_plan 335 = .ok (.iload 10, 2) := dw_21 wX10_plan_c 10 rfl
theorem dX10_plan_337 : decode cX10_plan 337 = .ok (.aload_n 0, 1) := dw_42 wX10_plan_c rfl
theorem dX10_plan_338 : decode cX10_plan 338 = .ok (.getfield 428, 3) := dw_180 wX10_plan_c 1 172 rfl rfl
theorem dX10_plan_341 : decode cX10_plan 341 = .ok (.if_icmp .ge 23, 3) := dw_162 wX10_plan_c 0 23 rfl rfl rfl
theorem dX10_plan_344 : decode cX10_plan 344 = .ok (.aload_n 0, 1) := dw_42 wX10_plan_c rfl
theorem dX10_plan_345 : decode cX10_plan 345 = .ok (.getfield 183, 3) := dw_180 wX10_plan_c 0 183 rfl rfl
theorem dX10_plan_348 : decode cX10_plan 348 = .ok (.iload 10, 2) := dw_21 wX10_plan_c 10 rfl
theorem dX10_plan_350 : decode cX10_plan 350 = .ok (.aload_n 0, 1) := dw_42 wX10_plan_c rfl
theorem dX10_plan_351 : decode cX10_plan 351 = .ok (.getfield 180, 3) := dw_180 wX10_plan_c 0 180 rfl rfl
theorem dX10_plan_354 : decode cX10_plan 354 = .ok (.iload 10, 2) := dw_21 wX10_plan_c 10 rfl
theorem dX10_plan_356 : decode cX10_plan 356 = .ok (.iaload, 1) := dw_46 wX10_plan_c rfl
theorem dX10_plan_357 : decode cX10_plan 357 = .ok (.iastore, 1) := dw_79 wX10_plan_c rfl
theorem dX10_plan_358 : decode cX10_plan 358 = .ok (.iinc 10 1, 3) := dw_132 wX10_plan_c 10 1 rfl rfl rfl
theorem dX10_plan_361 : decode cX10_plan 361 = .ok (.goto (-26), 3) := dn_167 wX10_plan_c 255 230 rfl (by decide)
theorem dX10_plan_364 : decode cX10_plan 364 = .ok (.aload_n 0, 1) := dw_42 wX10_plan_c rfl
theorem dX10_plan_365 : decode cX10_plan 365 = .ok (.getfield 428, 3) := dw_180 wX10_plan_c 1 172 rfl rfl
theorem dX10_plan_368 : decode cX10_plan 368 = .ok (.iconst 1, 1) := dw_4 wX10_plan_c rfl
theorem dX10_plan_369 : decode cX10_plan 369 = .ok (.isub, 1) := dw_100 wX10_plan_c rfl
theorem dX10_plan_370 : decode cX10_plan 370 = .ok (.istore 10, 2) := dw_54 wX10_plan_c 10 rfl
theorem dX10_plan_372 : decode cX10_plan 372 = .ok (.iload 10, 2) := dw_21 wX10_plan_c 10 rfl
theorem dX10_plan_374 : decode cX10_plan 374 = .ok (.ifCond .lt 29, 3) := dw_155 wX10_plan_c 0 29 rfl rfl rfl
theorem dX10_plan_377 : decode cX10_plan 377 = .ok (.aload_n 0, 1) := dw_42 wX10_plan_c rfl
theorem dX10_plan_378 : decode cX10_plan 378 = .ok (.getfield 180, 3) := dw_180 wX10_plan_c 0 180 rfl rfl
theorem dX10_plan_381 : decode cX10_plan 381 = .ok (.iload 10, 2) := dw_21 wX10_plan_c 10 rfl
theorem dX10_plan_383 : decode cX10_plan 383 = .ok (.iaload, 1) := dw_46 wX10_plan_c rfl
theorem dX10_plan_384 : decode cX10_plan 384 = .ok (.bipush 12, 2) := dw_16 wX10_plan_c 12 rfl rfl rfl
theorem dX10_plan_386 : decode cX10_plan 386 = .ok (.if_icmp .ne 17, 3) := dw_160 wX10_plan_c 0 17 rfl rfl rfl
theorem dX10_plan_389 : decode cX10_plan 389 = .ok (.aload_n 0, 1) := dw_42 wX10_plan_c rfl
theorem dX10_plan_390 : decode cX10_plan 390 = .ok (.getfield 180, 3) := dw_180 wX10_plan_c 0 180 rfl rfl
theorem dX10_plan_393 : decode cX10_plan 393 = .ok (.iload 10, 2) := dw_21 wX10_plan_c 10 rfl
theorem dX10_plan_395 : decode cX10_plan 395 = .ok (.iconst 0, 1) := dw_3 wX10_plan_c rfl
theorem dX10_plan_396 : decode cX10_plan 396 = .ok (.iastore, 1) := dw_79 wX10_plan_c rfl
theorem dX10_plan_397 : decode cX10_plan 397 = .ok (.iinc 10 (-1), 3) := dn_132 wX10_plan_c 10 255 rfl (by decide)
theorem dX10_plan_400 : decode cX10_plan 400 = .ok (.goto (-28), 3) := dn_167 wX10_plan_c 255 228 rfl (by decide)
theorem dX10_plan_403 : decode cX10_plan 403 = .ok (.iload 10, 2) := dw_21 wX10_plan_c 10 rfl
theorem dX10_plan_405 : decode cX10_plan 405 = .ok (.ifCond .lt 7, 3) := dw_155 wX10_plan_c 0 7 rfl rfl rfl
theorem dX10_plan_408 : decode cX10_plan 408 = .ok (.iconst 1, 1) := dw_4 wX10_plan_c rfl
theorem dX10_plan_409 : decode cX10_plan 409 = .ok (.goto 4, 3) := dw_167 wX10_plan_c 0 4 rfl rfl rfl
theorem dX10_plan_412 : decode cX10_plan 412 = .ok (.iconst 0, 1) := dw_3 wX10_plan_c rfl
theorem dX10_plan_413 : decode cX10_plan 413 = .ok (.istore 6, 2) := dw_54 wX10_plan_c 6 rfl
theorem dX10_plan_415 : decode cX10_plan 415 = .ok (.iload 6, 2) := dw_21 wX10_plan_c 6 rfl
theorem dX10_plan_417 : decode cX10_plan 417 = .ok (.ifCond .eq 14, 3) := dw_153 wX10_plan_c 0 14 rfl rfl rfl
theorem dX10_plan_420 : decode cX10_plan 420 = .ok (.aload_n 0, 1) := dw_42 wX10_plan_c rfl
theorem dX10_plan_421 : decode cX10_plan 421 = .ok (.getfield 180, 3) := dw_180 wX10_plan_c 0 180 rfl rfl
theorem dX10_plan_424 : decode cX10_plan 424 = .ok (.iload 10, 2) := dw_21 wX10_plan_c 10 rfl
theorem dX10_plan_426 : decode cX10_plan 426 = .ok (.dup2, 1) := dw_92 wX10_plan_c rfl
theorem dX10_plan_427 : decode cX10_plan 427 = .ok (.iaload, 1) := dw_46 wX10_plan_c rfl
theorem dX10_plan_428 : decode cX10_plan 428 = .ok (.iconst 1, 1) := dw_4 wX10_plan_c rfl
theorem dX10_plan_429 : decode cX10_plan 429 = .ok (.iadd, 1) := dw_96 wX10_plan_c rfl
theorem dX10_plan_430 : decode cX10_plan 430 = .ok (.iastore, 1) := dw_79 wX10_plan_c rfl
theorem dX10_plan_431 : decode cX10_plan 431 = .ok (.goto (-227), 3) := dn_167 wX10_plan_c 255 29 rfl (by decide)
theorem dX10_plan_434 : decode cX10_plan 434 = .ok (.iload 4, 2) := dw_21 wX10_plan_c 4 rfl
theorem dX10_plan_436 : decode cX10_plan 436 = .ok (.ldc_w 431, 3) := dw_19 wX10_plan_c 1 175 rfl rfl
theorem dX10_plan_439 : decode cX10_plan 439 = .ok (.if_icmp .ne 6, 3) := dw_160 wX10_plan_c 0 6 rfl rfl rfl
theorem dX10_plan_442 : decode cX10_plan 442 = .ok (.bipush (-2), 2) := dn_16 wX10_plan_c 254 rfl (by decide)
theorem dX10_plan_444 : decode cX10_plan 444 = .ok (.ireturn, 1) := dw_172 wX10_plan_c rfl
theorem dX10_plan_445 : decode cX10_plan 445 = .ok (.aload_n 0, 1) := dw_42 wX10_plan_c rfl
theorem dX10_plan_446 : decode cX10_plan 446 = .ok (.aload_n 0, 1) := dw_42 wX10_plan_c rfl
theorem dX10_plan_447 : decode cX10_plan 447 = .ok (.getfield 428, 3) := dw_180 wX10_plan_c 1 172 rfl rfl
theorem dX10_plan_450 : decode cX10_plan 450 = .ok (.putfield 435, 3) := dw_181 wX10_plan_c 1 179 rfl rfl
theorem dX10_plan_453 : decode cX10_plan 453 = .ok (.iconst 0, 1) := dw_3 wX10_plan_c rfl
theorem dX10_plan_454 : decode cX10_plan 454 = .ok (.istore 7, 2) := dw_54 wX10_plan_c 7 rfl
theorem dX10_plan_456 : decode cX10_plan 456 = .ok (.iload 7, 2) := dw_21 wX10_plan_c 7 rfl
theorem dX10_plan_458 : decode cX10_plan 458 = .ok (.aload_n 0, 1) := dw_42 wX10_plan_c rfl
theorem dX10_plan_459 : decode cX10_plan 459 = .ok (.getfield 428, 3) := dw_180 wX10_plan_c 1 172 rfl rfl
theorem dX10_plan_462 : decode cX10_plan 462 = .ok (.if_icmp .ge 68, 3) := dw_162 wX10_plan_c 0 68 rfl rfl rfl
theorem dX10_plan_465 : decode cX10_plan 465 = .ok (.aload_n 0, 1) := dw_42 wX10_plan_c rfl
theorem dX10_plan_466 : decode cX10_plan 466 = .ok (.getfield 165, 3) := dw_180 wX10_plan_c 0 165 rfl rfl
theorem dX10_plan_469 : decode cX10_plan 469 = .ok (.iload 7, 2) := dw_21 wX10_plan_c 7 rfl
theorem dX10_plan_471 : decode cX10_plan 471 = .ok (.aload_n 0, 1) := dw_42 wX10_plan_c rfl
theorem dX10_plan_472 : decode cX10_plan 472 = .ok (.getfield 171, 3) := dw_180 wX10_plan_c 0 171 rfl rfl
theorem dX10_plan_475 : decode cX10_plan 475 = .ok (.iload 7, 2) := dw_21 wX10_plan_c 7 rfl
theorem dX10_plan_477 : decode cX10_plan 477 = .ok (.iaload, 1) := dw_46 wX10_plan_c rfl
theorem dX10_plan_478 : decode cX10_plan 478 = .ok (.iastore, 1) := dw_79 wX10_plan_c rfl
theorem dX10_plan_479 : decode cX10_plan 479 = .ok (.aload_n 0, 1) := dw_42 wX10_plan_c rfl
theorem dX10_plan_480 : decode cX10_plan 480 = .ok (.getfield 168, 3) := dw_180 wX10_plan_c 0 168 rfl rfl
theorem dX10_plan_483 : decode cX10_plan 483 = .ok (.iload 7, 2) := dw_21 wX10_plan_c 7 rfl
theorem dX10_plan_485 : decode cX10_plan 485 = .ok (.aload_n 0, 1) := dw_42 wX10_plan_c rfl
theorem dX10_plan_486 : decode cX10_plan 486 = .ok (.getfield 177, 3) := dw_180 wX10_plan_c 0 177 rfl rfl
theorem dX10_plan_489 : decode cX10_plan 489 = .ok (.iload 7, 2) := dw_21 wX10_plan_c 7 rfl
theorem dX10_plan_491 : decode cX10_plan 491 = .ok (.iaload, 1) := dw_46 wX10_plan_c rfl
theorem dX10_plan_492 : decode cX10_plan 492 = .ok (.aload_n 0, 1) := dw_42 wX10_plan_c rfl
theorem dX10_plan_493 : decode cX10_plan 493 = .ok (.getfield 183, 3) := dw_180 wX10_plan_c 0 183 rfl rfl
theorem dX10_plan_496 : decode cX10_plan 496 = .ok (.iload 7, 2) := dw_21 wX10_plan_c 7 rfl
theorem dX10_plan_498 : decode cX10_plan 498 = .ok (.iaload, 1) := dw_46 wX10_plan_c rfl
theorem dX10_plan_499 : decode cX10_plan 499 = .ok (.iload_n 2, 1) := dw_28 wX10_plan_c rfl
theorem dX10_plan_500 : decode cX10_plan 500 = .ok (.imul, 1) := dw_104 wX10_plan_c rfl
theorem dX10_plan_501 : decode cX10_plan 501 = .ok (.iadd, 1) := dw_96 wX10_plan_c rfl
theorem dX10_plan_502 : decode cX10_plan 502 = .ok (.iastore, 1) := dw_79 wX10_plan_c rfl
theorem dX10_plan_503 : decode cX10_plan 503 = .ok (.aload_n 0, 1) := dw_42 wX10_plan_c rfl
theorem dX10_plan_504 : decode cX10_plan 504 = .ok (.getfield 186, 3) := dw_180 wX10_plan_c 0 186 rfl rfl
theorem dX10_plan_507 : decode cX10_plan 507 = .ok (.iload 7, 2) := dw_21 wX10_plan_c 7 rfl
theorem dX10_plan_509 : decode cX10_plan 509 = .ok (.aload_n 0, 1) := dw_42 wX10_plan_c rfl
theorem dX10_plan_510 : decode cX10_plan 510 = .ok (.iload 7, 2) := dw_21 wX10_plan_c 7 rfl
theorem dX10_plan_512 : decode cX10_plan 512 = .ok (.aload_n 0, 1) := dw_42 wX10_plan_c rfl
theorem dX10_plan_513 : decode cX10_plan 513 = .ok (.getfield 183, 3) := dw_180 wX10_plan_c 0 183 rfl rfl
theorem dX10_plan_516 : decode cX10_plan 516 = .ok (.iload 7, 2) := dw_21 wX10_plan_c 7 rfl
theorem dX10_plan_518 : decode cX10_plan 518 = .ok (.iaload, 1) := dw_46 wX10_plan_c rfl
theorem dX10_plan_519 : decode cX10_plan 519 = .ok (.iload_n 2, 1) := dw_28 wX10_plan_c rfl
theorem dX10_plan_520 : decode cX10_plan 520 = .ok (.invokevirtual 432, 3) := dw_182 wX10_plan_c 1 176 rfl rfl
theorem dX10_plan_523 : decode cX10_plan 523 = .ok (.iastore, 1) := dw_79 wX10_plan_c rfl
theorem dX10_plan_524 : decode cX10_plan 524 = .ok (.iinc 7 1, 3) := dw_132 wX10_plan_c 7 1 rfl rfl rfl
theorem dX10_plan_527 : decode cX10_plan 527 = .ok (.goto (-71), 3) := dn_167 wX10_plan_c 255 185 rfl (by decide)
theorem dX10_plan_530 : decode cX10_plan 530 = .ok (.iload 4, 2) := dw_21 wX10_plan_c 4 rfl
theorem dX10_plan_532 : decode cX10_plan 532 = .ok (.ireturn, 1) := dw_172 wX10_plan_c rfl
def wNX10_order : Nat := 13513278903888547982771721520741113581370481956095540754622856484791002486467826908604566179474507294386456113627865779913623497160404233631455945296214808001384337339881716223766677468524664502472020943654583656843051290876485609186466450965351520062099716322675244139140037645488139978219687315817782931480267234839704995925253378317123266134534507903600386211502534467833037203465298212573505379952535407815729966947403411947150112581299290953741846165086683855167412216279376427250837705598888264765233636223373914808607686555680402002749310744690826026
theorem wX10_order_c : hz_cd cX10_order wNX10_order 231 := ⟨by decide +kernel, by decide +kernel⟩
theorem dX10_order_0 : decode cX10_order 0 = .ok (.aload_n 0, 1) := dw_42 wX10_order_c rfl
theorem dX10_order_1 : decode cX10_order 1 = .ok (.iload_n 1, 1) := dw_27 wX10_order_c rfl
theorem dX10_order_2 : decode cX10_order 2 = .ok (.invokevirtual 370, 3) := dw_182 wX10_order_c 1 114 rfl rfl
theorem dX10_order_5 : decode cX10_order 5 = .ok (.ifCond .eq 48, 3) := dw_153 wX10_order_c 0 48 rfl rfl rfl
theorem dX10_order_8 : decode cX10_order 8 = .ok (.aload_n 0, 1) := dw_42 wX10_order_c rfl
theorem dX10_order_9 : decode cX10_order 9 = .ok (.getfield 123, 3) := dw_180 wX10_order_c 0 123 rfl rfl
theorem dX10_order_12 : decode cX10_order 12 = .ok (.iload_n 1, 1) := dw_27 wX10_order_c rfl
theorem dX10_order_13 : decode cX10_order 13 = .ok (.iaload, 1) := dw_46 wX10_order_c rfl
theorem dX10_order_14 : decode cX10_order 14 = .ok (.iconst 5, 1) := dw_8 wX10_order_c rfl
theorem dX10_order_15 : decode cX10_order 15 = .ok (.if_icmp .ne 38, 3) := dw_160 wX10_order_c 0 38 rfl rfl rfl
theorem dX10_order_18 : decode cX10_order 18 = .ok (.aload_n 0, 1) := dw_42 wX10_order_c rfl
theorem dX10_order_19 : decode cX10_order 19 = .ok (.getfield 114, 3) := dw_180 wX10_order_c 0 114 rfl rfl
theorem dX10_order_22 : decode cX10_order 22 = .ok (.iload_n 1, 1) := dw_27 wX10_order_c rfl
theorem dX10_order_23 : decode cX10_order 23 = .ok (.iaload, 1) := dw_46 wX10_order_c rfl
theorem dX10_order_24 : decode cX10_order 24 = .ok (.iconst (-1), 1) := dw_2 wX10_order_c rfl
theorem dX10_order_25 : decode cX10_order 25 = .ok (.if_icmp .ne 28, 3) := dw_160 wX10_order_c 0 28 rfl rfl rfl
theorem dX10_order_28 : decode cX10_order 28 = .ok (.aload_n 0, 1) := dw_42 wX10_order_c rfl
theorem dX10_order_29 : decode cX10_order 29 = .ok (.getfield 56, 3) := dw_180 wX10_order_c 0 56 rfl rfl
theorem dX10_order_32 : decode cX10_order 32 = .ok (.aload_n 0, 1) := dw_42 wX10_order_c rfl
theorem dX10_order_33 : decode cX10_order 33 = .ok (.getfield 84, 3) := dw_180 wX10_order_c 0 84 rfl rfl
theorem dX10_order_36 : decode cX10_order 36 = .ok (.iload_n 1, 1) := dw_27 wX10_order_c rfl
theorem dX10_order_37 : decode cX10_order 37 = .ok (.iaload, 1) := dw_46 wX10_order_c rfl
theorem dX10_order_38 : decode cX10_order 38 = .ok (.baload, 1) := dw_51 wX10_order_c rfl
theorem dX10_order_39 : decode cX10_order 39 = .ok (.ifCond .ne 14, 3) := dw_154 wX10_order_c 0 14 rfl rfl rfl
theorem dX10_order_42 : decode cX10_order 42 = .ok (.iload_n 2, 1) := dw_28 wX10_order_c rfl
theorem dX10_order_43 : decode cX10_order 43 = .ok (.iconst 1, 1) := dw_4 wX10_order_c rfl
theorem dX10_order_44 : decode cX10_order 44 = .ok (.sipush 9999, 3) := dw_17 wX10_order_c 39 15 rfl rfl rfl
theorem dX10_order_47 : decode cX10_order 47 = .ok (.invokestatic 228, 3) := dw_184 wX10_order_c 0 228 rfl rfl
theorem dX10_order_50 : decode cX10_order 50 = .ok (.ifCond .ne 5, 3) := dw_154 wX10_order_c 0 5 rfl rfl rfl
theorem dX10_order_53 : decode cX10_order 53 = .ok (.iconst (-1), 1) := dw_2 wX10_order_c rfl
theorem dX10_order_54 : decode cX10_order 54 = .ok (.ireturn, 1) := dw_172 wX10_order_c rfl
theorem dX10_order_55 : decode cX10_order 55 = .ok (.aload_n 0, 1) := dw_42 wX10_order_c rfl
theorem dX10_order_56 : decode cX10_order 56 = .ok (.getfield 102, 3) := dw_180 wX10_order_c 0 102 rfl rfl
theorem dX10_order_59 : decode cX10_order 59 = .ok (.iload_n 1, 1) := dw_27 wX10_order_c rfl
theorem dX10_order_60 : decode cX10_order 60 = .ok (.iaload, 1) := dw_46 wX10_order_c rfl
theorem dX10_order_61 : decode cX10_order 61 = .ok (.istore_n 3, 1) := dw_62 wX10_order_c rfl
theorem dX10_order_62 : decode cX10_order 62 = .ok (.aload_n 0, 1) := dw_42 wX10_order_c rfl
theorem dX10_order_63 : decode cX10_order 63 = .ok (.getfield 87, 3) := dw_180 wX10_order_c 0 87 rfl rfl
theorem dX10_order_66 : decode cX10_order 66 = .ok (.iload_n 1, 1) := dw_27 wX10_order_c rfl
theorem dX10_order_67 : decode cX10_order 67 = .ok (.iaload, 1) := dw_46 wX10_order_c rfl
theorem dX10_order_68 : decode cX10_order 68 = .ok (.aload_n 0, 1) := dw_42 wX10_order_c rfl
theorem dX10_order_69 : decode cX10_order 69 = .ok (.getfield 105, 3) := dw_180 wX10_order_c 0 105 rfl rfl
theorem dX10_order_72 : decode cX10_order 72 = .ok (.iload_n 1, 1) := dw_27 wX10_order_c rfl
theorem dX10_order_73 : decode cX10_order 73 = .ok (.iaload, 1) := dw_46 wX10_order_c rfl
theorem dX10_order_74 : decode cX10_order 74 = .ok (.aload_n 0, 1) := dw_42 wX10_order_c rfl
theorem dX10_order_75 : decode cX10_order 75 = .ok (.iload_n 3, 1) := dw_29 wX10_order_c rfl
theorem dX10_order_76 : decode cX10_order 76 = .ok (.bipush 9, 2) := dw_16 wX10_order_c 9 rfl rfl rfl
theorem dX10_order_78 : decode cX10_order 78 = .ok (.invokevirtual 333, 3) := dw_182 wX10_order_c 1 77 rfl rfl
theorem dX10_order_81 : decode cX10_order 81 = .ok (.imul, 1) := dw_104 wX10_order_c rfl
theorem dX10_order_82 : decode cX10_order 82 = .ok (.iadd, 1) := dw_96 wX10_order_c rfl
theorem dX10_order_83 : decode cX10_order 83 = .ok (.aload_n 0, 1) := dw_42 wX10_order_c rfl
theorem dX10_order_84 : decode cX10_order 84 = .ok (.iload_n 3, 1) := dw_29 wX10_order_c rfl
theorem dX10_order_85 : decode cX10_order 85 = .ok (.bipush 10, 2) := dw_16 wX10_order_c 10 rfl rfl rfl
theorem dX10_order_87 : decode cX10_order 87 = .ok (.invokevirtual 333, 3) := dw_182 wX10_order_c 1 77 rfl rfl
theorem dX10_order_90 : decode cX10_order 90 = .ok (.iadd, 1) := dw_96 wX10_order_c rfl
theorem dX10_order_91 : decode cX10_order 91 = .ok (.aload_n 0, 1) := dw_42 wX10_order_c rfl
theorem dX10_order_92 : decode cX10_order 92 = .ok (.iload_n 3, 1) := dw_29 wX10_order_c rfl
theorem dX10_order_93 : decode cX10_order 93 = .ok (.bipush 11, 2) := dw_16 wX10_order_c 11 rfl rfl rfl
theorem dX10_order_95 : decode cX10_order 95 = .ok (.invokevirtual 333, 3) := dw_182 wX10_order_c 1 77 rfl rfl
theorem dX10_order_98 : decode cX10_order 98 = .ok (.iadd, 1) := dw_96 wX10_order_c rfl
theorem dX10_order_99 : decode cX10_order 99 = .ok (.istore 4, 2) := dw_54 wX10_order_c 4 rfl
theorem dX10_order_101 : decode cX10_order 101 = .ok (.iload_n 2, 1) := dw_28 wX10_order_c rfl
theorem dX10_order_102 : decode cX10_order 102 = .ok (.aload_n 0, 1) := dw_42 wX10_order_c rfl
theorem dX10_order_103 : decode cX10_order 103 = .ok (.iload_n 3, 1) := dw_29 wX10_order_c rfl
theorem dX10_order_104 : decode cX10_order 104 = .ok (.iconst 2, 1) := dw_5 wX10_order_c rfl
theorem dX10_order_105 : decode cX10_order 105 = .ok (.invokevirtual 333, 3) := dw_182 wX10_order_c 1 77 rfl rfl
theorem dX10_order_108 : decode cX10_order 108 = .ok (.if_icmp .ge 12, 3) := dw_162 wX10_order_c 0 12 rfl rfl rfl
theorem dX10_order_111 : decode cX10_order 111 = .ok (.iload_n 2, 1) := dw_28 wX10_order_c rfl
theorem dX10_order_112 : decode cX10_order 112 = .ok (.iload 4, 2) := dw_21 wX10_order_c 4 rfl
theorem dX10_order_114 : decode cX10_order 114 = .ok (.if_icmp .ge 6, 3) := dw_162 wX10_order_c 0 6 rfl rfl rfl
theorem dX10_order_117 : decode cX10_order 117 = .ok (.bipush (-2), 2) := dn_16 wX10_order_c 254 rfl (by decide)
theorem dX10_order_119 : decode cX10_order 119 = .ok (.ireturn, 1) := dw_172 wX10_order_c rfl
theorem dX10_order_120 : decode cX10_order 120 = .ok (.iconst 0, 1) := dw_3 wX10_order_c rfl
theorem dX10_order_121 : decode cX10_order 121 = .ok (.istore 5, 2) := dw_54 wX10_order_c 5 rfl
theorem dX10_order_123 : decode cX10_order 123 = .ok (.iconst 0, 1) := dw_3 wX10_order_c rfl
theorem dX10_order_124 : decode cX10_order 124 = .ok (.istore 6, 2) := dw_54 wX10_order_c 6 rfl
theorem dX10_order_126 : decode cX10_order 126 = .ok (.iload 6, 2) := dw_21 wX10_order_c 6 rfl
theorem dX10_order_128 : decode cX10_order 128 = .ok (.aload_n 0, 1) := dw_42 wX10_order_c rfl
theorem dX10_order_129 : decode cX10_order 129 = .ok (.getfield 367, 3) := dw_180 wX10_order_c 1 111 rfl rfl
theorem dX10_order_132 : decode cX10_order 132 = .ok (.if_icmp .ge 50, 3) := dw_162 wX10_order_c 0 50 rfl rfl rfl
theorem dX10_order_135 : decode cX10_order 135 = .ok (.iload 5, 2) := dw_21 wX10_order_c 5 rfl
theorem dX10_order_137 : decode cX10_order 137 = .ok (.aload_n 0, 1) := dw_42 wX10_order_c rfl
theorem dX10_order_138 : decode cX10_order 138 = .ok (.getfield 84, 3) := dw_180 wX10_order_c 0 84 rfl rfl
theorem dX10_order_141 : decode cX10_order 141 = .ok (.iload 6, 2) := dw_21 wX10_order_c 6 rfl
theorem dX10_order_143 : decode cX10_order 143 = .ok (.iaload, 1) := dw_46 wX10_order_c rfl
theorem dX10_order_144 : decode cX10_order 144 = .ok (.aload_n 0, 1) := dw_42 wX10_order_c rfl
theorem dX10_order_145 : decode cX10_order 145 = .ok (.getfield 84, 3) := dw_180 wX10_order_c 0 84 rfl rfl
theorem dX10_order_148 : decode cX10_order 148 = .ok (.iload_n 1, 1) := dw_27 wX10_order_c rfl
theorem dX10_order_149 : decode cX10_order 149 = .ok (.iaload, 1) := dw_46 wX10_order_c rfl
theorem dX10_order_150 : decode cX10_order 150 = .ok (.if_icmp .ne 22, 3) := dw_160 wX10_order_c 0 22 rfl rfl rfl
theorem dX10_order_153 : decode cX10_order 153 = .ok (.aload_n 0, 1) := dw_42 wX10_order_c rfl
theorem dX10_order_154 : decode cX10_order 154 = .ok (.iload 6, 2) := dw_21 wX10_order_c 6 rfl
theorem dX10_order_156 : decode cX10_order 156 = .ok (.invokevirtual 419, 3) := dw_182 wX10_order_c 1 163 rfl rfl
theorem dX10_order_159 : decode cX10_order 159 = .ok (.ifCond .eq 13, 3) := dw_153 wX10_order_c 0 13 rfl rfl rfl
theorem dX10_order_162 : decode cX10_order 162 = .ok (.aload_n 0, 1) := dw_42 wX10_order_c rfl
theorem dX10_order_163 : decode cX10_order 163 = .ok (.getfield 132, 3) := dw_180 wX10_order_c 0 132 rfl rfl
theorem dX10_order_166 : decode cX10_order 166 = .ok (.iload 6, 2) := dw_21 wX10_order_c 6 rfl
theorem dX10_order_168 : decode cX10_order 168 = .ok (.iaload, 1) := dw_46 wX10_order_c rfl
theorem dX10_order_169 : decode cX10_order 169 = .ok (.goto 4, 3) := dw_167 wX10_order_c 0 4 rfl rfl rfl
theorem dX10_order_172 : decode cX10_order 172 = .ok (.iconst 0, 1) := dw_3 wX10_order_c rfl
theorem dX10_order_173 : decode cX10_order 173 = .ok (.iadd, 1) := dw_96 wX10_order_c rfl
theorem dX10_order_174 : decode cX10_order 174 = .ok (.istore 5, 2) := dw_54 wX10_order_c 5 rfl
theorem dX10_order_176 : decode cX10_order 176 = .ok (.iinc 6 1, 3) := dw_132 wX10_order_c 6 1 rfl rfl rfl
theorem dX10_order_179 : decode cX10_order 179 = .ok (.goto (-53), 3) := dn_167 wX10_order_c 255 203 rfl (by decide)
theorem dX10_order_182 : decode cX10_order 182 = .ok (.iload_n 2, 1) := dw_28 wX10_order_c rfl
theorem dX10_order_183 : decode cX10_order 183 = .ok (.iload 5, 2) := dw_21 wX10_order_c 5 rfl
theorem dX10_order_185 : decode cX10_order 185 = .ok (.iadd, 1) := dw_96 wX10_order_c rfl
theorem dX10_order_186 : decode cX10_order 186 = .ok (.aload_n 0, 1) := dw_42 wX10_order_c rfl
theorem dX10_order_187 : decode cX10_order 187 = .ok (.aload_n 0, 1) := dw_42 wX10_order_c rfl
theorem dX10_order_188 : decode cX10_order 188 = .ok (.getfield 84, 3) := dw_180 wX10_order_c 0 84 rfl rfl
theorem dX10_order_191 : decode cX10_order 191 = .ok (.iload_n 1, 1) := dw_27 wX10_order_c rfl
theorem dX10_order_192 : decode cX10_order 192 = .ok (.iaload, 1) := dw_46 wX10_order_c rfl
theorem dX10_order_193 : decode cX10_order 193 = .ok (.iload_n 3, 1) := dw_29 wX10_order_c rfl
theorem dX10_order_194 : decode cX10_order 194 = .ok (.invokevirtual 422, 3) := dw_182 wX10_order_c 1 166 rfl rfl
theorem dX10_order_197 : decode cX10_order 197 = .ok (.if_icmp .le 6, 3) := dw_164 wX10_order_c 0 6 rfl rfl rfl
theorem dX10_order_200 : decode cX10_order 200 = .ok (.bipush (-3), 2) := dn_16 wX10_order_c 253 rfl (by decide)
theorem dX10_order_202 : decode cX10_order 202 = .ok (.ireturn, 1) := dw_172 wX10_order_c rfl
theorem dX10_order_203 : decode cX10_order 203 = .ok (.aload_n 0, 1) := dw_42 wX10_order_c rfl
theorem dX10_order_204 : decode cX10_order 204 = .ok (.getfield 114, 3) := dw_180 wX10_order_c 0 114 rfl rfl
theorem dX10_order_207 : decode cX10_order 207 = .ok (.iload_n 1, 1) := dw_27 wX10_order_c rfl
theorem dX10_order_208 : decode cX10_order 208 = .ok (.aload_n 0, 1) := dw_42 wX10_order_c rfl
theorem dX10_order_209 : decode cX10_order 209 = .ok (.getfield 232, 3) := dw_180 wX10_order_c 0 232 rfl rfl
theorem dX10_order_212 : decode cX10_order 212 = .ok (.iastore, 1) := dw_79 wX10_order_c rfl
theorem dX10_order_213 : decode cX10_order 213 = .ok (.aload_n 0, 1) := dw_42 wX10_order_c rfl
theorem dX10_order_214 : decode cX10_order 214 = .ok (.getfield 132, 3) := dw_180 wX10_order_c 0 132 rfl rfl
theorem dX10_order_217 : decode cX10_order 217 = .ok (.iload_n 1, 1) := dw_27 wX10_order_c rfl
theorem dX10_order_218 : decode cX10_order 218 = .ok (.iload_n 2, 1) := dw_28 wX10_order_c rfl
theorem dX10_order_219 : decode cX10_order 219 = .ok (.iastore, 1) := dw_79 wX10_order_c rfl
theorem dX10_order_220 : decode cX10_order 220 = .ok (.aload_n 0, 1) := dw_42 wX10_order_c rfl
theorem dX10_order_221 : decode cX10_order 221 = .ok (.getfield 135, 3) := dw_180 wX10_order_c 0 135 rfl rfl
theorem dX10_order_224 : decode cX10_order 224 = .ok (.iload_n 1, 1) := dw_27 wX10_order_c rfl
theorem dX10_order_225 : decode cX10_order 225 = .ok (.iload 4, 2) := dw_21 wX10_order_c 4 rfl
theorem dX10_order_227 : decode cX10_order 227 = .ok (.iastore, 1) := dw_79 wX10_order_c rfl
theorem dX10_order_228 : decode cX10_order 228 = .ok (.iload 4, 2) := dw_21 wX10_order_c 4 rfl
theorem dX10_order_230 : decode cX10_order 230 = .ok (.ireturn, 1) := dw_172 wX10_order_c rfl
end
section
set_option maxHeartbeats 4000000 in
set_option maxRecDepth 100000 in
theorem t_X10_stepsBetween_2 (l : Launch) (dC : Nat → ClassId) (dI : Nat → Nat → Nat) (dA : Nat → ClassId) (L : List Nat) (h : hx_h) (sz : Nat) (i1 : Int32) (i2 : Int32) (i3 : Int32) (i4 : Int32) (hT : hx_T T_tb L h)  (hi1 : 0 ≤ i1.toInt ∧ i1.toInt ≤ 99) (hi2 : 0 ≤ i2.toInt ∧ i2.toInt ≤ 99) (hi3 : 0 ≤ i3.toInt ∧ i3.toInt ≤ 99) (hi4 : 0 ≤ i4.toInt ∧ i4.toInt ≤ 99) : Met l yX10_stepsBetween (Cond.code yX10_stepsBetween cX10_stepsBetween 4 (some .int) :: hx_all) ({ frames := 0, cells := 0, slots := 0, locals := 0 }) (va_Pc [.int i1, .int i2, .int i3, .int i4] (hx_B T_tb (P_ty dA) (dC, dI) vwCl L h sz)) (va_Qi (fun (r : Int32) (u : List Nat × hx_h) => (r.toInt = hx_ab i1.toInt i3.toInt + hx_ab i2.toInt i4.toInt ∧ 0 ≤ r.toInt ∧ r.toInt ≤ 198) ∧ hx_T T_tb u.1 u.2 ∧ hx_S T_tb [] L h u.1 u.2) (hx_E T_tb (P_ty dA) (dC, dI) vwCl (hx_A L sz)) (hx_A L sz)) 0 0 (hx_A L sz) := by
  refine hx_met (lv := [(0, .int i1), (1, .int i2), (2, .int i3), (3, .int i4)]) (by decide +kernel) rfl (Nat.le_of_ble_eq_true rfl) rfl ?_
  intro p e s m below meth c hx hb hml hr hlk hts0 hown hin hsz hW ls hl
  have hts : ∀ w ∈ hx_all, w.before _ s = true := fun w hw => hts0 w (List.mem_cons_of_mem _ hw)
  have hown : s.vm.findClass "SmallCourtModel" = some m.cls := hown
  have hM : hx_S T_tb [] L h L h := hx_S.rf
  refine lv_iload_n hx hb dX10_stepsBetween_0 rfl (lv_at hl 0 rfl) ?_
  refine lv_iload_n hx hb dX10_stepsBetween_1 rfl (lv_at hl 2 rfl) ?_
  refine hb_icmp_ge (zx := i1.toInt) (zy := i3.toInt) (tgt := 11) hx hb rfl rfl dX10_stepsBetween_2 ?o0 (fun c_1 => ?_) (fun c_1 => ?_)
  case o0 => decide
  · skip
    refine lv_iload_n hx hb dX10_stepsBetween_11 rfl (lv_at hl 0 rfl) ?_
    refine lv_iload_n hx hb dX10_stepsBetween_12 rfl (lv_at hl 2 rfl) ?_
    refine lv_isub hx hb dX10_stepsBetween_13 ?_
    have rg_2 := i32_r i1
    have rg_3 := i32_r i3
    refine lv_topi (fun x_4 ex_4 => ?_)
    have zx_4 : x_4.toInt = i1.toInt - i3.toInt := ?o1
    case o1 =>
      rw [ex_4]
      refine i32_sub rfl rfl ?o2 ?o3
      case o2 => omega
      case o3 => omega
    refine lv_iload_n hx hb dX10_stepsBetween_14 rfl (lv_at hl 1 rfl) ?_
    refine lv_iload_n hx hb dX10_stepsBetween_15 rfl (lv_at hl 3 rfl) ?_
    refine hb_icmp_ge (zx := i2.toInt) (zy := i4.toInt) (tgt := 25) hx hb rfl rfl dX10_stepsBetween_16 ?o4 (fun c_5 => ?_) (fun c_5 => ?_)
    case o4 => decide
    · skip
      refine lv_iload_n hx hb dX10_stepsBetween_25 rfl (lv_at hl 1 rfl) ?_
      refine lv_iload_n hx hb dX10_stepsBetween_26 rfl (lv_at hl 3 rfl) ?_
      refine lv_isub hx hb dX10_stepsBetween_27 ?_
      have rg_6 := i32_r i2
      have rg_7 := i32_r i4
      refine lv_topi (fun x_8 ex_8 => ?_)
      have zx_8 : x_8.toInt = i2.toInt - i4.toInt := ?o5
      case o5 =>
        rw [ex_8]
        refine i32_sub rfl rfl ?o6 ?o7
        case o6 => omega
        case o7 => omega
      refine lv_iadd hx hb dX10_stepsBetween_28 ?_
      have rg_9 := i32_r x_4
      have rg_10 := i32_r x_8
      refine lv_topi (fun x_11 ex_11 => ?_)
      have zx_11 : x_11.toInt = x_4.toInt + x_8.toInt := ?o8
      case o8 =>
        rw [ex_11]
        refine i32_add rfl rfl ?o9 ?o10
        case o9 => omega
        case o10 => omega
      refine hx_reti hx hb hr hlk hW ⟨⟨by simp only [hx_ab]; (repeat' split) <;> omega, ?o11, ?o12⟩, hT, hM⟩ dX10_stepsBetween_29
      case o11 => omega
      case o12 => omega
    · skip
      refine lv_iload_n hx hb dX10_stepsBetween_19 rfl (lv_at hl 3 rfl) ?_
      refine lv_iload_n hx hb dX10_stepsBetween_20 rfl (lv_at hl 1 rfl) ?_
      refine lv_isub hx hb dX10_stepsBetween_21 ?_
      have rg_12 := i32_r i4
      have rg_13 := i32_r i2
      refine lv_topi (fun x_14 ex_14 => ?_)
      have zx_14 : x_14.toInt = i4.toInt - i2.toInt := ?o13
      case o13 =>
        rw [ex_14]
        refine i32_sub rfl rfl ?o14 ?o15
        case o14 => omega
        case o15 => omega
      refine lv_goto (tgt := 28) hx hb dX10_stepsBetween_22 ?o16 ?_
      case o16 => decide
      refine lv_iadd hx hb dX10_stepsBetween_28 ?_
      have rg_15 := i32_r x_4
      have rg_16 := i32_r x_14
      refine lv_topi (fun x_17 ex_17 => ?_)
      have zx_17 : x_17.toInt = x_4.toInt + x_14.toInt := ?o17
      case o17 =>
        rw [ex_17]
        refine i32_add rfl rfl ?o18 ?o19
        case o18 => omega
        case o19 => omega
      refine hx_reti hx hb hr hlk hW ⟨⟨by simp only [hx_ab]; (repeat' split) <;> omega, ?o20, ?o21⟩, hT, hM⟩ dX10_stepsBetween_29
      case o20 => omega
      case o21 => omega
  · skip
    refine lv_iload_n hx hb dX10_stepsBetween_5 rfl (lv_at hl 2 rfl) ?_
    refine lv_iload_n hx hb dX10_stepsBetween_6 rfl (lv_at hl 0 rfl) ?_
    refine lv_isub hx hb dX10_stepsBetween_7 ?_
    have rg_18 := i32_r i3
    have rg_19 := i32_r i1
    refine lv_topi (fun x_20 ex_20 => ?_)
    have zx_20 : x_20.toInt = i3.toInt - i1.toInt := ?o22
    case o22 =>
      rw [ex_20]
      refine i32_sub rfl rfl ?o23 ?o24
      case o23 => omega
      case o24 => omega
    refine lv_goto (tgt := 14) hx hb dX10_stepsBetween_8 ?o25 ?_
    case o25 => decide
    refine lv_iload_n hx hb dX10_stepsBetween_14 rfl (lv_at hl 1 rfl) ?_
    refine lv_iload_n hx hb dX10_stepsBetween_15 rfl (lv_at hl 3 rfl) ?_
    refine hb_icmp_ge (zx := i2.toInt) (zy := i4.toInt) (tgt := 25) hx hb rfl rfl dX10_stepsBetween_16 ?o26 (fun c_21 => ?_) (fun c_21 => ?_)
    case o26 => decide
    · skip
      refine lv_iload_n hx hb dX10_stepsBetween_25 rfl (lv_at hl 1 rfl) ?_
      refine lv_iload_n hx hb dX10_stepsBetween_26 rfl (lv_at hl 3 rfl) ?_
      refine lv_isub hx hb dX10_stepsBetween_27 ?_
      have rg_22 := i32_r i2
      have rg_23 := i32_r i4
      refine lv_topi (fun x_24 ex_24 => ?_)
      have zx_24 : x_24.toInt = i2.toInt - i4.toInt := ?o27
      case o27 =>
        rw [ex_24]
        refine i32_sub rfl rfl ?o28 ?o29
        case o28 => omega
        case o29 => omega
      refine lv_iadd hx hb dX10_stepsBetween_28 ?_
      have rg_25 := i32_r x_20
      have rg_26 := i32_r x_24
      refine lv_topi (fun x_27 ex_27 => ?_)
      have zx_27 : x_27.toInt = x_20.toInt + x_24.toInt := ?o30
      case o30 =>
        rw [ex_27]
        refine i32_add rfl rfl ?o31 ?o32
        case o31 => omega
        case o32 => omega
      refine hx_reti hx hb hr hlk hW ⟨⟨by simp only [hx_ab]; (repeat' split) <;> omega, ?o33, ?o34⟩, hT, hM⟩ dX10_stepsBetween_29
      case o33 => omega
      case o34 => omega
    · skip
      refine lv_iload_n hx hb dX10_stepsBetween_19 rfl (lv_at hl 3 rfl) ?_
      refine lv_iload_n hx hb dX10_stepsBetween_20 rfl (lv_at hl 1 rfl) ?_
      refine lv_isub hx hb dX10_stepsBetween_21 ?_
      have rg_28 := i32_r i4
      have rg_29 := i32_r i2
      refine lv_topi (fun x_30 ex_30 => ?_)
      have zx_30 : x_30.toInt = i4.toInt - i2.toInt := ?o35
      case o35 =>
        rw [ex_30]
        refine i32_sub rfl rfl ?o36 ?o37
        case o36 => omega
        case o37 => omega
      refine lv_goto (tgt := 28) hx hb dX10_stepsBetween_22 ?o38 ?_
      case o38 => decide
      refine lv_iadd hx hb dX10_stepsBetween_28 ?_
      have rg_31 := i32_r x_20
      have rg_32 := i32_r x_30
      refine lv_topi (fun x_33 ex_33 => ?_)
      have zx_33 : x_33.toInt = x_20.toInt + x_30.toInt := ?o39
      case o39 =>
        rw [ex_33]
        refine i32_add rfl rfl ?o40 ?o41
        case o40 => omega
        case o41 => omega
      refine hx_reti hx hb hr hlk hW ⟨⟨by simp only [hx_ab]; (repeat' split) <;> omega, ?o42, ?o43⟩, hT, hM⟩ dX10_stepsBetween_29
      case o42 => omega
      case o43 => omega


set_option maxHeartbeats 4000000 in
set_option maxRecDepth 100000 in
theorem t_X10_far_2 (l : Launch) (dC : Nat → ClassId) (dI : Nat → Nat → Nat) (dA : Nat → ClassId) (L : List Nat) (h : hx_h) (sz : Nat) (x : Nat) (i1 : Int32) (i2 : Int32) (hT : hx_T T_tb L h) (gx : hx_g L h x 10) (qls : Nat) (gqls : hx_g L h qls 112) (f_x_91 : h.2.2 x 91 = some qls) (qag : Nat) (gqag : hx_g L h qag 73) (f_x_38 : h.2.2 x 38 = some qag) (qdx : Nat) (gqdx : hx_g L h qdx 61) (f_x_24 : h.2.2 x 24 = some qdx) (qdy : Nat) (gqdy : hx_g L h qdy 62) (f_x_25 : h.2.2 x 25 = some qdy) (lf : Nat → Int32) (af_qls : h.2.1 qls = lf) (agf : Nat → Int32) (af_qag : h.2.1 qag = agf) (dxf : Nat → Int32) (af_qdx : h.2.1 qdx = dxf) (dyf : Nat → Int32) (af_qdy : h.2.1 qdy = dyf) (n0 : Int32) (f_x_90 : h.2.1 x 90 = n0) (hi1 : 0 ≤ i1.toInt ∧ i1.toInt ≤ n0.toInt) (hi2 : 0 ≤ i2.toInt ∧ i2.toInt ≤ n0.toInt) : Met l yX10_far (Cond.code yX10_far cX10_far 7 (some .int) :: hx_all) ({ frames := 1, cells := 0, slots := 0, locals := 23 }) (va_Pc [.ref x, .int i1, .int i2] (hx_B T_tb (P_ty dA) (dC, dI) vwCl L h sz)) (va_Qi (fun (r : Int32) (u : List Nat × hx_h) => (r.toInt = hx_fr lf agf dxf dyf n0.toInt i1.toInt i2.toInt ∧ 0 ≤ r.toInt ∧ r.toInt ≤ 198) ∧ hx_T T_tb u.1 u.2 ∧ hx_S T_tb [] L h u.1 u.2) (hx_E T_tb (P_ty dA) (dC, dI) vwCl (hx_A L sz)) (hx_A L sz)) 0 0 (hx_A L sz) := by
  refine hx_met (lv := [(0, .ref x), (1, .int i1), (2, .int i2)]) (by decide +kernel) rfl (Nat.le_of_ble_eq_true rfl) rfl ?_
  intro p e s m below meth c hx hb hml hr hlk hts0 hown hin hsz hW ls hl
  have hts : ∀ w ∈ hx_all, w.before _ s = true := fun w hw => hts0 w (List.mem_cons_of_mem _ hw)
  have hown : s.vm.findClass "SmallCourtModel" = some m.cls := hown
  have hM : hx_S T_tb [] L h L h := hx_S.rf
  have b_n0 := hT.gi gx tt_10 (k := 90) rfl
  rw [f_x_90] at b_n0
  have b_n0 : 0 ≤ n0.toInt ∧ n0.toInt ≤ 8 := b_n0
  refine lv_iload_n hx hb dX10_far_0 rfl (lv_at hl 1 rfl) ?_
  refine lv_aload_n hx hb dX10_far_1 rfl (lv_at hl 0 rfl) ?_
  refine hk_geti hx hb hts hC_10 hown hW (gx.S hM) tt_10 90 ?o0 rfl kw_1233 ⟨rfl, rfl, rfl⟩ ((hM.o gx trivial rfl).1.trans f_x_90) dX10_far_2 ?_
  case o0 => decide
  refine hb_icmp_ne (zx := i1.toInt) (zy := n0.toInt) (tgt := 13) hx hb rfl rfl dX10_far_5 ?o1 (fun c_1 => ?_) (fun c_1 => ?_)
  case o1 => decide
  · skip
    refine lv_aload_n hx hb dX10_far_13 rfl (lv_at hl 0 rfl) ?_
    refine hk_getr hx hb hts hC_10 hown hW (gx.S hM) tt_10 24 ?o2 rfl kw_1167 ⟨rfl, rfl, rfl⟩ ((hM.o gx trivial rfl).2.trans f_x_24) dX10_far_14 ?_
    case o2 => decide
    refine lv_aload_n hx hb dX10_far_17 rfl (lv_at hl 0 rfl) ?_
    refine hk_getr hx hb hts hC_10 hown hW (gx.S hM) tt_10 38 ?o3 rfl kw_1181 ⟨rfl, rfl, rfl⟩ ((hM.o gx trivial rfl).2.trans f_x_38) dX10_far_18 ?_
    case o3 => decide
    refine lv_aload_n hx hb dX10_far_21 rfl (lv_at hl 0 rfl) ?_
    refine hk_getr hx hb hts hC_10 hown hW (gx.S hM) tt_10 91 ?o4 rfl kw_1234 ⟨rfl, rfl, rfl⟩ ((hM.o gx trivial rfl).2.trans f_x_91) dX10_far_22 ?_
    case o4 => decide
    refine lv_iload_n hx hb dX10_far_25 rfl (lv_at hl 1 rfl) ?_
    refine hx_iald hx hb hW hT (gqls.S hM) tt_112 rfl ⟨?o5, ?o6⟩ dX10_far_26 (fun x_2 ex_2 lx_2 ux_2 => ?_)
    case o5 => omega
    case o6 => omega
    have ax_2 : x_2 = lf i1.toNatClampNeg := ex_2.trans (congrFun (hx_afS hM gqls rfl af_qls) _)
    refine hx_iald hx hb hW hT (gqag.S hM) tt_73 rfl ⟨?o7, ?o8⟩ dX10_far_27 (fun x_3 ex_3 lx_3 ux_3 => ?_)
    case o7 => omega
    case o8 => omega
    have ax_3 : x_3 = agf x_2.toNatClampNeg := ex_3.trans (congrFun (hx_afS hM gqag rfl af_qag) _)
    refine hx_iald hx hb hW hT (gqdx.S hM) tt_61 rfl ⟨?o9, ?o10⟩ dX10_far_28 (fun x_4 ex_4 lx_4 ux_4 => ?_)
    case o9 => omega
    case o10 => omega
    have ax_4 : x_4 = dxf x_3.toNatClampNeg := ex_4.trans (congrFun (hx_afS hM gqdx rfl af_qdx) _)
    refine lv_istore_n (lv' := [(3, .int x_4), (0, .ref x), (1, .int i1), (2, .int i2)]) hx hb dX10_far_29 rfl hl ?o11 rfl (fun ls hl => ?_)
    case o11 => decide
    refine lv_iload_n hx hb dX10_far_30 rfl (lv_at hl 2 rfl) ?_
    refine lv_aload_n hx hb dX10_far_31 rfl (lv_at hl 1 rfl) ?_
    refine hk_geti hx hb hts hC_10 hown hW (gx.S hM) tt_10 90 ?o12 rfl kw_1233 ⟨rfl, rfl, rfl⟩ ((hM.o gx trivial rfl).1.trans f_x_90) dX10_far_32 ?_
    case o12 => decide
    refine hb_icmp_ne (zx := i1.toInt) (zy := n0.toInt) (tgt := 43) hx hb rfl rfl dX10_far_35 ?o13 (fun c_5 => ?_) (fun c_5 => ?_)
    case o13 => decide
    · skip
      refine lv_aload_n hx hb dX10_far_43 rfl (lv_at hl 1 rfl) ?_
      refine hk_getr hx hb hts hC_10 hown hW (gx.S hM) tt_10 25 ?o14 rfl kw_1168 ⟨rfl, rfl, rfl⟩ ((hM.o gx trivial rfl).2.trans f_x_25) dX10_far_44 ?_
      case o14 => decide
      refine lv_aload_n hx hb dX10_far_47 rfl (lv_at hl 1 rfl) ?_
      refine hk_getr hx hb hts hC_10 hown hW (gx.S hM) tt_10 38 ?o15 rfl kw_1181 ⟨rfl, rfl, rfl⟩ ((hM.o gx trivial rfl).2.trans f_x_38) dX10_far_48 ?_
      case o15 => decide
      refine lv_aload_n hx hb dX10_far_51 rfl (lv_at hl 1 rfl) ?_
      refine hk_getr hx hb hts hC_10 hown hW (gx.S hM) tt_10 91 ?o16 rfl kw_1234 ⟨rfl, rfl, rfl⟩ ((hM.o gx trivial rfl).2.trans f_x_91) dX10_far_52 ?_
      case o16 => decide
      refine lv_iload_n hx hb dX10_far_55 rfl (lv_at hl 2 rfl) ?_
      refine hx_iald hx hb hW hT (gqls.S hM) tt_112 rfl ⟨?o17, ?o18⟩ dX10_far_56 (fun x_6 ex_6 lx_6 ux_6 => ?_)
      case o17 => omega
      case o18 => omega
      have ax_6 : x_6 = lf i1.toNatClampNeg := ex_6.trans (congrFun (hx_afS hM gqls rfl af_qls) _)
      obtain rfl : x_2 = x_6 := ex_2.trans ex_6.symm
      refine hx_iald hx hb hW hT (gqag.S hM) tt_73 rfl ⟨?o19, ?o20⟩ dX10_far_57 (fun x_7 ex_7 lx_7 ux_7 => ?_)
      case o19 => omega
      case o20 => omega
      have ax_7 : x_7 = agf x_2.toNatClampNeg := ex_7.trans (congrFun (hx_afS hM gqag rfl af_qag) _)
      obtain rfl : x_3 = x_7 := ex_3.trans ex_7.symm
      refine hx_iald hx hb hW hT (gqdy.S hM) tt_62 rfl ⟨?o21, ?o22⟩ dX10_far_58 (fun x_8 ex_8 lx_8 ux_8 => ?_)
      case o21 => omega
      case o22 => omega
      have ax_8 : x_8 = dyf x_3.toNatClampNeg := ex_8.trans (congrFun (hx_afS hM gqdy rfl af_qdy) _)
      refine lv_istore (lv' := [(4, .int x_8), (3, .int x_4), (0, .ref x), (1, .int i1), (2, .int i2)]) hx hb dX10_far_59 hl ?o23 rfl (fun ls hl => ?_)
      case o23 => decide
      refine lv_iload_n hx hb dX10_far_61 rfl (lv_at hl 4 rfl) ?_
      refine lv_aload_n hx hb dX10_far_62 rfl (lv_at hl 2 rfl) ?_
      refine hk_geti hx hb hts hC_10 hown hW (gx.S hM) tt_10 90 ?o24 rfl kw_1233 ⟨rfl, rfl, rfl⟩ ((hM.o gx trivial rfl).1.trans f_x_90) dX10_far_63 ?_
      case o24 => decide
      refine hb_icmp_ne (zx := i2.toInt) (zy := n0.toInt) (tgt := 74) hx hb rfl rfl dX10_far_66 ?o25 (fun c_9 => ?_) (fun c_9 => ?_)
      case o25 => decide
      · skip
        refine lv_aload_n hx hb dX10_far_74 rfl (lv_at hl 2 rfl) ?_
        refine hk_getr hx hb hts hC_10 hown hW (gx.S hM) tt_10 24 ?o26 rfl kw_1167 ⟨rfl, rfl, rfl⟩ ((hM.o gx trivial rfl).2.trans f_x_24) dX10_far_75 ?_
        case o26 => decide
        refine lv_aload_n hx hb dX10_far_78 rfl (lv_at hl 2 rfl) ?_
        refine hk_getr hx hb hts hC_10 hown hW (gx.S hM) tt_10 38 ?o27 rfl kw_1181 ⟨rfl, rfl, rfl⟩ ((hM.o gx trivial rfl).2.trans f_x_38) dX10_far_79 ?_
        case o27 => decide
        refine lv_aload_n hx hb dX10_far_82 rfl (lv_at hl 2 rfl) ?_
        refine hk_getr hx hb hts hC_10 hown hW (gx.S hM) tt_10 91 ?o28 rfl kw_1234 ⟨rfl, rfl, rfl⟩ ((hM.o gx trivial rfl).2.trans f_x_91) dX10_far_83 ?_
        case o28 => decide
        refine lv_iload_n hx hb dX10_far_86 rfl (lv_at hl 4 rfl) ?_
        refine hx_iald hx hb hW hT (gqls.S hM) tt_112 rfl ⟨?o29, ?o30⟩ dX10_far_87 (fun x_10 ex_10 lx_10 ux_10 => ?_)
        case o29 => omega
        case o30 => omega
        have ax_10 : x_10 = lf i2.toNatClampNeg := ex_10.trans (congrFun (hx_afS hM gqls rfl af_qls) _)
        refine hx_iald hx hb hW hT (gqag.S hM) tt_73 rfl ⟨?o31, ?o32⟩ dX10_far_88 (fun x_11 ex_11 lx_11 ux_11 => ?_)
        case o31 => omega
        case o32 => omega
        have ax_11 : x_11 = agf x_10.toNatClampNeg := ex_11.trans (congrFun (hx_afS hM gqag rfl af_qag) _)
        refine hx_iald hx hb hW hT (gqdx.S hM) tt_61 rfl ⟨?o33, ?o34⟩ dX10_far_89 (fun x_12 ex_12 lx_12 ux_12 => ?_)
        case o33 => omega
        case o34 => omega
        have ax_12 : x_12 = dxf x_11.toNatClampNeg := ex_12.trans (congrFun (hx_afS hM gqdx rfl af_qdx) _)
        refine lv_istore (lv' := [(5, .int x_12), (4, .int x_8), (3, .int x_4), (0, .ref x), (1, .int i1), (2, .int i2)]) hx hb dX10_far_90 hl ?o35 rfl (fun ls hl => ?_)
        case o35 => decide
        refine lv_iload_n hx hb dX10_far_92 rfl (lv_at hl 5 rfl) ?_
        refine lv_aload_n hx hb dX10_far_93 rfl (lv_at hl 3 rfl) ?_
        refine hk_geti hx hb hts hC_10 hown hW (gx.S hM) tt_10 90 ?o36 rfl kw_1233 ⟨rfl, rfl, rfl⟩ ((hM.o gx trivial rfl).1.trans f_x_90) dX10_far_94 ?_
        case o36 => decide
        refine hb_icmp_ne (zx := i2.toInt) (zy := n0.toInt) (tgt := 105) hx hb rfl rfl dX10_far_97 ?o37 (fun c_13 => ?_) (fun c_13 => ?_)
        case o37 => decide
        · skip
          refine lv_aload_n hx hb dX10_far_105 rfl (lv_at hl 3 rfl) ?_
          refine hk_getr hx hb hts hC_10 hown hW (gx.S hM) tt_10 25 ?o38 rfl kw_1168 ⟨rfl, rfl, rfl⟩ ((hM.o gx trivial rfl).2.trans f_x_25) dX10_far_106 ?_
          case o38 => decide
          refine lv_aload_n hx hb dX10_far_109 rfl (lv_at hl 3 rfl) ?_
          refine hk_getr hx hb hts hC_10 hown hW (gx.S hM) tt_10 38 ?o39 rfl kw_1181 ⟨rfl, rfl, rfl⟩ ((hM.o gx trivial rfl).2.trans f_x_38) dX10_far_110 ?_
          case o39 => decide
          refine lv_aload_n hx hb dX10_far_113 rfl (lv_at hl 3 rfl) ?_
          refine hk_getr hx hb hts hC_10 hown hW (gx.S hM) tt_10 91 ?o40 rfl kw_1234 ⟨rfl, rfl, rfl⟩ ((hM.o gx trivial rfl).2.trans f_x_91) dX10_far_114 ?_
          case o40 => decide
          refine lv_iload_n hx hb dX10_far_117 rfl (lv_at hl 5 rfl) ?_
          refine hx_iald hx hb hW hT (gqls.S hM) tt_112 rfl ⟨?o41, ?o42⟩ dX10_far_118 (fun x_14 ex_14 lx_14 ux_14 => ?_)
          case o41 => omega
          case o42 => omega
          have ax_14 : x_14 = lf i2.toNatClampNeg := ex_14.trans (congrFun (hx_afS hM gqls rfl af_qls) _)
          obtain rfl : x_10 = x_14 := ex_10.trans ex_14.symm
          refine hx_iald hx hb hW hT (gqag.S hM) tt_73 rfl ⟨?o43, ?o44⟩ dX10_far_119 (fun x_15 ex_15 lx_15 ux_15 => ?_)
          case o43 => omega
          case o44 => omega
          have ax_15 : x_15 = agf x_10.toNatClampNeg := ex_15.trans (congrFun (hx_afS hM gqag rfl af_qag) _)
          obtain rfl : x_11 = x_15 := ex_11.trans ex_15.symm
          refine hx_iald hx hb hW hT (gqdy.S hM) tt_62 rfl ⟨?o45, ?o46⟩ dX10_far_120 (fun x_16 ex_16 lx_16 ux_16 => ?_)
          case o45 => omega
          case o46 => omega
          have ax_16 : x_16 = dyf x_11.toNatClampNeg := ex_16.trans (congrFun (hx_afS hM gqdy rfl af_qdy) _)
          refine lv_istore (lv' := [(6, .int x_16), (5, .int x_12), (4, .int x_8), (3, .int x_4), (0, .ref x), (1, .int i1), (2, .int i2)]) hx hb dX10_far_121 hl ?o47 rfl (fun ls hl => ?_)
          case o47 => decide
          have hc3 : x_4.toInt = hx_cx lf agf dxf n0.toInt i1.toInt := ?o48
          case o48 =>
            unfold hx_cx
            rw [if_neg (by omega)]
            exact congrArg Int32.toInt (ax_4.trans (congrArg (fun z : Int32 => dxf z.toInt.toNat) (ax_3.trans (congrArg (fun z : Int32 => agf z.toInt.toNat) ax_2))))
          have hc4 : x_8.toInt = hx_cx lf agf dyf n0.toInt i1.toInt := ?o49
          case o49 =>
            unfold hx_cx
            rw [if_neg (by omega)]
            exact congrArg Int32.toInt (ax_8.trans (congrArg (fun z : Int32 => dyf z.toInt.toNat) (ax_3.trans (congrArg (fun z : Int32 => agf z.toInt.toNat) ax_2))))
          have hc5 : x_12.toInt = hx_cx lf agf dxf n0.toInt i2.toInt := ?o50
          case o50 =>
            unfold hx_cx
            rw [if_neg (by omega)]
            exact congrArg Int32.toInt (ax_12.trans (congrArg (fun z : Int32 => dxf z.toInt.toNat) (ax_11.trans (congrArg (fun z : Int32 => agf z.toInt.toNat) ax_10))))
          have hc6 : x_16.toInt = hx_cx lf agf dyf n0.toInt i2.toInt := ?o51
          case o51 =>
            unfold hx_cx
            rw [if_neg (by omega)]
            exact congrArg Int32.toInt (ax_16.trans (congrArg (fun z : Int32 => dyf z.toInt.toNat) (ax_11.trans (congrArg (fun z : Int32 => agf z.toInt.toNat) ax_10))))
          refine lv_iload_n hx hb dX10_far_123 rfl (lv_at hl 3 rfl) ?_
          refine lv_iload hx hb dX10_far_124 (lv_at hl 2 rfl) ?_
          refine lv_iload hx hb dX10_far_126 (lv_at hl 1 rfl) ?_
          refine lv_iload hx hb dX10_far_128 (lv_at hl 0 rfl) ?_
          refine hx_goi (hx_runS (As := [.int x_4, .int x_8, .int x_12, .int x_16]) (rest := []) ⟨hx, hb, hml, hown, hts⟩ hW (t_X10_stepsBetween_2 l dC dI dA L h s.heap.size x_4 x_8 x_12 x_16 hT ⟨?o52, ?o53⟩ ⟨?o54, ?o55⟩ ⟨?o56, ?o57⟩ ⟨?o58, ?o59⟩) (va_cwS 4 hts (hx_gS kw_1728 kw_1726 kw_1727 kw_103) rfl rfl rfl (by decide +kernel) ⟨Nat.le_of_ble_eq_true rfl, Nat.le_of_ble_eq_true rfl⟩) rfl hl.1 rfl (Nat.le_of_ble_eq_true rfl) dX10_far_130 ⟨Nat.le_of_ble_eq_true rfl, Nat.le_of_ble_eq_true rfl⟩) hW (fun r_19 L_17 h_18 H locs p_20 hW => ?_)
          case o52 => omega
          case o53 => omega
          case o54 => omega
          case o55 => omega
          case o56 => omega
          case o57 => omega
          case o58 => omega
          case o59 => omega
          obtain ⟨hr_21, hT, hs⟩ := p_20
          replace hT : hx_T T_tb L_17 h_18 := hT
          replace hs : hx_S T_tb [] L h L_17 h_18 := hs
          replace ex_2 := ex_2.trans (hs.a (gqls.S hM) rfl _).1.symm
          replace ex_3 := ex_3.trans (hs.a (gqag.S hM) rfl _).1.symm
          replace ex_4 := ex_4.trans (hs.a (gqdx.S hM) rfl _).1.symm
          replace ex_8 := ex_8.trans (hs.a (gqdy.S hM) rfl _).1.symm
          replace ex_10 := ex_10.trans (hs.a (gqls.S hM) rfl _).1.symm
          replace ex_11 := ex_11.trans (hs.a (gqag.S hM) rfl _).1.symm
          replace ex_12 := ex_12.trans (hs.a (gqdx.S hM) rfl _).1.symm
          replace ex_16 := ex_16.trans (hs.a (gqdy.S hM) rfl _).1.symm
          replace hM := hM.tr (hs.mono ?o60)
          case o60 => decide
          refine hx_reti hx hb hr hlk hW ⟨⟨by unfold hx_fr; rw [← hc3, ← hc4, ← hc5, ← hc6]; exact hr_21.1, ?o61, ?o62⟩, hT, hM⟩ dX10_far_133
          case o61 => omega
          case o62 => omega
        · skip
          refine lv_bipush (v := 50) hx hb dX10_far_100 ?o63 ?_
          case o63 => decide
          refine lv_goto (tgt := 121) hx hb dX10_far_102 ?o64 ?_
          case o64 => decide
          refine lv_istore (lv' := [(6, .int (50 : Int32)), (5, .int x_12), (4, .int x_8), (3, .int x_4), (0, .ref x), (1, .int i1), (2, .int i2)]) hx hb dX10_far_121 hl ?o65 rfl (fun ls hl => ?_)
          case o65 => decide
          have hc3 : x_4.toInt = hx_cx lf agf dxf n0.toInt i1.toInt := ?o66
          case o66 =>
            unfold hx_cx
            rw [if_neg (by omega)]
            exact congrArg Int32.toInt (ax_4.trans (congrArg (fun z : Int32 => dxf z.toInt.toNat) (ax_3.trans (congrArg (fun z : Int32 => agf z.toInt.toNat) ax_2))))
          have hc4 : x_8.toInt = hx_cx lf agf dyf n0.toInt i1.toInt := ?o67
          case o67 =>
            unfold hx_cx
            rw [if_neg (by omega)]
            exact congrArg Int32.toInt (ax_8.trans (congrArg (fun z : Int32 => dyf z.toInt.toNat) (ax_3.trans (congrArg (fun z : Int32 => agf z.toInt.toNat) ax_2))))
          have hc5 : x_12.toInt = hx_cx lf agf dxf n0.toInt i2.toInt := ?o68
          case o68 =>
            unfold hx_cx
            rw [if_neg (by omega)]
            exact congrArg Int32.toInt (ax_12.trans (congrArg (fun z : Int32 => dxf z.toInt.toNat) (ax_11.trans (congrArg (fun z : Int32 => agf z.toInt.toNat) ax_10))))
          have hc6 : (50 : Int32).toInt = hx_cx lf agf dyf n0.toInt i2.toInt := ?o69
          case o69 =>
            unfold hx_cx
            rw [if_pos (by omega)]
            decide
          refine lv_iload_n hx hb dX10_far_123 rfl (lv_at hl 3 rfl) ?_
          refine lv_iload hx hb dX10_far_124 (lv_at hl 2 rfl) ?_
          refine lv_iload hx hb dX10_far_126 (lv_at hl 1 rfl) ?_
          refine lv_iload hx hb dX10_far_128 (lv_at hl 0 rfl) ?_
          have zc_50 : (50 : Int32).toInt = 50 := ?o70
          case o70 => decide
          refine hx_goi (hx_runS (As := [.int x_4, .int x_8, .int x_12, .int (50 : Int32)]) (rest := []) ⟨hx, hb, hml, hown, hts⟩ hW (t_X10_stepsBetween_2 l dC dI dA L h s.heap.size x_4 x_8 x_12 (50 : Int32) hT ⟨?o71, ?o72⟩ ⟨?o73, ?o74⟩ ⟨?o75, ?o76⟩ ⟨?o77, ?o78⟩) (va_cwS 4 hts (hx_gS kw_1728 kw_1726 kw_1727 kw_103) rfl rfl rfl (by decide +kernel) ⟨Nat.le_of_ble_eq_true rfl, Nat.le_of_ble_eq_true rfl⟩) rfl hl.1 rfl (Nat.le_of_ble_eq_true rfl) dX10_far_130 ⟨Nat.le_of_ble_eq_true rfl, Nat.le_of_ble_eq_true rfl⟩) hW (fun r_24 L_22 h_23 H locs p_25 hW => ?_)
          case o71 => omega
          case o72 => omega
          case o73 => omega
          case o74 => omega
          case o75 => omega
          case o76 => omega
          case o77 => omega
          case o78 => omega
          obtain ⟨hr_26, hT, hs⟩ := p_25
          replace hT : hx_T T_tb L_22 h_23 := hT
          replace hs : hx_S T_tb [] L h L_22 h_23 := hs
          replace ex_2 := ex_2.trans (hs.a (gqls.S hM) rfl _).1.symm
          replace ex_3 := ex_3.trans (hs.a (gqag.S hM) rfl _).1.symm
          replace ex_4 := ex_4.trans (hs.a (gqdx.S hM) rfl _).1.symm
          replace ex_8 := ex_8.trans (hs.a (gqdy.S hM) rfl _).1.symm
          replace ex_10 := ex_10.trans (hs.a (gqls.S hM) rfl _).1.symm
          replace ex_11 := ex_11.trans (hs.a (gqag.S hM) rfl _).1.symm
          replace ex_12 := ex_12.trans (hs.a (gqdx.S hM) rfl _).1.symm
          replace hM := hM.tr (hs.mono ?o79)
          case o79 => decide
          refine hx_reti hx hb hr hlk hW ⟨⟨by unfold hx_fr; rw [← hc3, ← hc4, ← hc5, ← hc6]; exact hr_26.1, ?o80, ?o81⟩, hT, hM⟩ dX10_far_133
          case o80 => omega
          case o81 => omega
      · skip
        refine lv_bipush (v := 50) hx hb dX10_far_69 ?o82 ?_
        case o82 => decide
        refine lv_goto (tgt := 90) hx hb dX10_far_71 ?o83 ?_
        case o83 => decide
        refine lv_istore (lv' := [(5, .int (50 : Int32)), (4, .int x_8), (3, .int x_4), (0, .ref x), (1, .int i1), (2, .int i2)]) hx hb dX10_far_90 hl ?o84 rfl (fun ls hl => ?_)
        case o84 => decide
        refine lv_iload_n hx hb dX10_far_92 rfl (lv_at hl 5 rfl) ?_
        refine lv_aload_n hx hb dX10_far_93 rfl (lv_at hl 3 rfl) ?_
        refine hk_geti hx hb hts hC_10 hown hW (gx.S hM) tt_10 90 ?o85 rfl kw_1233 ⟨rfl, rfl, rfl⟩ ((hM.o gx trivial rfl).1.trans f_x_90) dX10_far_94 ?_
        case o85 => decide
        refine hb_icmp_ne (zx := i2.toInt) (zy := n0.toInt) (tgt := 105) hx hb rfl rfl dX10_far_97 ?o86 (fun c_27 => ?_) (fun c_27 => ?_)
        case o86 => decide
        · skip
          refine lv_aload_n hx hb dX10_far_105 rfl (lv_at hl 3 rfl) ?_
          refine hk_getr hx hb hts hC_10 hown hW (gx.S hM) tt_10 25 ?o87 rfl kw_1168 ⟨rfl, rfl, rfl⟩ ((hM.o gx trivial rfl).2.trans f_x_25) dX10_far_106 ?_
          case o87 => decide
          refine lv_aload_n hx hb dX10_far_109 rfl (lv_at hl 3 rfl) ?_
          refine hk_getr hx hb hts hC_10 hown hW (gx.S hM) tt_10 38 ?o88 rfl kw_1181 ⟨rfl, rfl, rfl⟩ ((hM.o gx trivial rfl).2.trans f_x_38) dX10_far_110 ?_
          case o88 => decide
          refine lv_aload_n hx hb dX10_far_113 rfl (lv_at hl 3 rfl) ?_
          refine hk_getr hx hb hts hC_10 hown hW (gx.S hM) tt_10 91 ?o89 rfl kw_1234 ⟨rfl, rfl, rfl⟩ ((hM.o gx trivial rfl).2.trans f_x_91) dX10_far_114 ?_
          case o89 => decide
          refine lv_iload_n hx hb dX10_far_117 rfl (lv_at hl 5 rfl) ?_
          refine hx_iald hx hb hW hT (gqls.S hM) tt_112 rfl ⟨?o90, ?o91⟩ dX10_far_118 (fun x_28 ex_28 lx_28 ux_28 => ?_)
          case o90 => omega
          case o91 => omega
          have ax_28 : x_28 = lf i2.toNatClampNeg := ex_28.trans (congrFun (hx_afS hM gqls rfl af_qls) _)
          refine hx_iald hx hb hW hT (gqag.S hM) tt_73 rfl ⟨?o92, ?o93⟩ dX10_far_119 (fun x_29 ex_29 lx_29 ux_29 => ?_)
          case o92 => omega
          case o93 => omega
          have ax_29 : x_29 = agf x_28.toNatClampNeg := ex_29.trans (congrFun (hx_afS hM gqag rfl af_qag) _)
          refine hx_iald hx hb hW hT (gqdy.S hM) tt_62 rfl ⟨?o94, ?o95⟩ dX10_far_120 (fun x_30 ex_30 lx_30 ux_30 => ?_)
          case o94 => omega
          case o95 => omega
          have ax_30 : x_30 = dyf x_29.toNatClampNeg := ex_30.trans (congrFun (hx_afS hM gqdy rfl af_qdy) _)
          refine lv_istore (lv' := [(6, .int x_30), (5, .int (50 : Int32)), (4, .int x_8), (3, .int x_4), (0, .ref x), (1, .int i1), (2, .int i2)]) hx hb dX10_far_121 hl ?o96 rfl (fun ls hl => ?_)
          case o96 => decide
          have hc3 : x_4.toInt = hx_cx lf agf dxf n0.toInt i1.toInt := ?o97
          case o97 =>
            unfold hx_cx
            rw [if_neg (by omega)]
            exact congrArg Int32.toInt (ax_4.trans (congrArg (fun z : Int32 => dxf z.toInt.toNat) (ax_3.trans (congrArg (fun z : Int32 => agf z.toInt.toNat) ax_2))))
          have hc4 : x_8.toInt = hx_cx lf agf dyf n0.toInt i1.toInt := ?o98
          case o98 =>
            unfold hx_cx
            rw [if_neg (by omega)]
            exact congrArg Int32.toInt (ax_8.trans (congrArg (fun z : Int32 => dyf z.toInt.toNat) (ax_3.trans (congrArg (fun z : Int32 => agf z.toInt.toNat) ax_2))))
          have hc5 : (50 : Int32).toInt = hx_cx lf agf dxf n0.toInt i2.toInt := ?o99
          case o99 =>
            unfold hx_cx
            rw [if_pos (by omega)]
            decide
          have hc6 : x_30.toInt = hx_cx lf agf dyf n0.toInt i2.toInt := ?o100
          case o100 =>
            unfold hx_cx
            rw [if_neg (by omega)]
            exact congrArg Int32.toInt (ax_30.trans (congrArg (fun z : Int32 => dyf z.toInt.toNat) (ax_29.trans (congrArg (fun z : Int32 => agf z.toInt.toNat) ax_28))))
          refine lv_iload_n hx hb dX10_far_123 rfl (lv_at hl 3 rfl) ?_
          refine lv_iload hx hb dX10_far_124 (lv_at hl 2 rfl) ?_
          refine lv_iload hx hb dX10_far_126 (lv_at hl 1 rfl) ?_
          refine lv_iload hx hb dX10_far_128 (lv_at hl 0 rfl) ?_
          have zc_50 : (50 : Int32).toInt = 50 := ?o101
          case o101 => decide
          refine hx_goi (hx_runS (As := [.int x_4, .int x_8, .int (50 : Int32), .int x_30]) (rest := []) ⟨hx, hb, hml, hown, hts⟩ hW (t_X10_stepsBetween_2 l dC dI dA L h s.heap.size x_4 x_8 (50 : Int32) x_30 hT ⟨?o102, ?o103⟩ ⟨?o104, ?o105⟩ ⟨?o106, ?o107⟩ ⟨?o108, ?o109⟩) (va_cwS 4 hts (hx_gS kw_1728 kw_1726 kw_1727 kw_103) rfl rfl rfl (by decide +kernel) ⟨Nat.le_of_ble_eq_true rfl, Nat.le_of_ble_eq_true rfl⟩) rfl hl.1 rfl (Nat.le_of_ble_eq_true rfl) dX10_far_130 ⟨Nat.le_of_ble_eq_true rfl, Nat.le_of_ble_eq_true rfl⟩) hW (fun r_33 L_31 h_32 H locs p_34 hW => ?_)
          case o102 => omega
          case o103 => omega
          case o104 => omega
          case o105 => omega
          case o106 => omega
          case o107 => omega
          case o108 => omega
          case o109 => omega
          obtain ⟨hr_35, hT, hs⟩ := p_34
          replace hT : hx_T T_tb L_31 h_32 := hT
          replace hs : hx_S T_tb [] L h L_31 h_32 := hs
          replace ex_2 := ex_2.trans (hs.a (gqls.S hM) rfl _).1.symm
          replace ex_3 := ex_3.trans (hs.a (gqag.S hM) rfl _).1.symm
          replace ex_4 := ex_4.trans (hs.a (gqdx.S hM) rfl _).1.symm
          replace ex_8 := ex_8.trans (hs.a (gqdy.S hM) rfl _).1.symm
          replace ex_28 := ex_28.trans (hs.a (gqls.S hM) rfl _).1.symm
          replace ex_29 := ex_29.trans (hs.a (gqag.S hM) rfl _).1.symm
          replace ex_30 := ex_30.trans (hs.a (gqdy.S hM) rfl _).1.symm
          replace hM := hM.tr (hs.mono ?o110)
          case o110 => decide
          refine hx_reti hx hb hr hlk hW ⟨⟨by unfold hx_fr; rw [← hc3, ← hc4, ← hc5, ← hc6]; exact hr_35.1, ?o111, ?o112⟩, hT, hM⟩ dX10_far_133
          case o111 => omega
          case o112 => omega
        · skip
          refine lv_bipush (v := 50) hx hb dX10_far_100 ?o113 ?_
          case o113 => decide
          refine lv_goto (tgt := 121) hx hb dX10_far_102 ?o114 ?_
          case o114 => decide
          refine lv_istore (lv' := [(6, .int (50 : Int32)), (5, .int (50 : Int32)), (4, .int x_8), (3, .int x_4), (0, .ref x), (1, .int i1), (2, .int i2)]) hx hb dX10_far_121 hl ?o115 rfl (fun ls hl => ?_)
          case o115 => decide
          have hc3 : x_4.toInt = hx_cx lf agf dxf n0.toInt i1.toInt := ?o116
          case o116 =>
            unfold hx_cx
            rw [if_neg (by omega)]
            exact congrArg Int32.toInt (ax_4.trans (congrArg (fun z : Int32 => dxf z.toInt.toNat) (ax_3.trans (congrArg (fun z : Int32 => agf z.toInt.toNat) ax_2))))
          have hc4 : x_8.toInt = hx_cx lf agf dyf n0.toInt i1.toInt := ?o117
          case o117 =>
            unfold hx_cx
            rw [if_neg (by omega)]
            exact congrArg Int32.toInt (ax_8.trans (congrArg (fun z : Int32 => dyf z.toInt.toNat) (ax_3.trans (congrArg (fun z : Int32 => agf z.toInt.toNat) ax_2))))
          have hc5 : (50 : Int32).toInt = hx_cx lf agf dxf n0.toInt i2.toInt := ?o118
          case o118 =>
            unfold hx_cx
            rw [if_pos (by omega)]
            decide
          have hc6 : (50 : Int32).toInt = hx_cx lf agf dyf n0.toInt i2.toInt := ?o119
          case o119 =>
            unfold hx_cx
            rw [if_pos (by omega)]
            decide
          refine lv_iload_n hx hb dX10_far_123 rfl (lv_at hl 3 rfl) ?_
          refine lv_iload hx hb dX10_far_124 (lv_at hl 2 rfl) ?_
          refine lv_iload hx hb dX10_far_126 (lv_at hl 1 rfl) ?_
          refine lv_iload hx hb dX10_far_128 (lv_at hl 0 rfl) ?_
          have zc_50 : (50 : Int32).toInt = 50 := ?o120
          case o120 => decide
          refine hx_goi (hx_runS (As := [.int x_4, .int x_8, .int (50 : Int32), .int (50 : Int32)]) (rest := []) ⟨hx, hb, hml, hown, hts⟩ hW (t_X10_stepsBetween_2 l dC dI dA L h s.heap.size x_4 x_8 (50 : Int32) (50 : Int32) hT ⟨?o121, ?o122⟩ ⟨?o123, ?o124⟩ ⟨?o125, ?o126⟩ ⟨?o127, ?o128⟩) (va_cwS 4 hts (hx_gS kw_1728 kw_1726 kw_1727 kw_103) rfl rfl rfl (by decide +kernel) ⟨Nat.le_of_ble_eq_true rfl, Nat.le_of_ble_eq_true rfl⟩) rfl hl.1 rfl (Nat.le_of_ble_eq_true rfl) dX10_far_130 ⟨Nat.le_of_ble_eq_true rfl, Nat.le_of_ble_eq_true rfl⟩) hW (fun r_38 L_36 h_37 H locs p_39 hW => ?_)
          case o121 => omega
          case o122 => omega
          case o123 => omega
          case o124 => omega
          case o125 => omega
          case o126 => omega
          case o127 => omega
          case o128 => omega
          obtain ⟨hr_40, hT, hs⟩ := p_39
          replace hT : hx_T T_tb L_36 h_37 := hT
          replace hs : hx_S T_tb [] L h L_36 h_37 := hs
          replace ex_2 := ex_2.trans (hs.a (gqls.S hM) rfl _).1.symm
          replace ex_3 := ex_3.trans (hs.a (gqag.S hM) rfl _).1.symm
          replace ex_4 := ex_4.trans (hs.a (gqdx.S hM) rfl _).1.symm
          replace ex_8 := ex_8.trans (hs.a (gqdy.S hM) rfl _).1.symm
          replace hM := hM.tr (hs.mono ?o129)
          case o129 => decide
          refine hx_reti hx hb hr hlk hW ⟨⟨by unfold hx_fr; rw [← hc3, ← hc4, ← hc5, ← hc6]; exact hr_40.1, ?o130, ?o131⟩, hT, hM⟩ dX10_far_133
          case o130 => omega
          case o131 => omega
    · skip
      refine lv_bipush (v := 50) hx hb dX10_far_38 ?o132 ?_
      case o132 => decide
      refine lv_goto (tgt := 59) hx hb dX10_far_40 ?o133 ?_
      case o133 => decide
      refine lv_istore (lv' := [(4, .int (50 : Int32)), (3, .int x_4), (0, .ref x), (1, .int i1), (2, .int i2)]) hx hb dX10_far_59 hl ?o134 rfl (fun ls hl => ?_)
      case o134 => decide
      refine lv_iload_n hx hb dX10_far_61 rfl (lv_at hl 4 rfl) ?_
      refine lv_aload_n hx hb dX10_far_62 rfl (lv_at hl 2 rfl) ?_
      refine hk_geti hx hb hts hC_10 hown hW (gx.S hM) tt_10 90 ?o135 rfl kw_1233 ⟨rfl, rfl, rfl⟩ ((hM.o gx trivial rfl).1.trans f_x_90) dX10_far_63 ?_
      case o135 => decide
      refine hb_icmp_ne (zx := i2.toInt) (zy := n0.toInt) (tgt := 74) hx hb rfl rfl dX10_far_66 ?o136 (fun c_41 => ?_) (fun c_41 => ?_)
      case o136 => decide
      · skip
        refine lv_aload_n hx hb dX10_far_74 rfl (lv_at hl 2 rfl) ?_
        refine hk_getr hx hb hts hC_10 hown hW (gx.S hM) tt_10 24 ?o137 rfl kw_1167 ⟨rfl, rfl, rfl⟩ ((hM.o gx trivial rfl).2.trans f_x_24) dX10_far_75 ?_
        case o137 => decide
        refine lv_aload_n hx hb dX10_far_78 rfl (lv_at hl 2 rfl) ?_
        refine hk_getr hx hb hts hC_10 hown hW (gx.S hM) tt_10 38 ?o138 rfl kw_1181 ⟨rfl, rfl, rfl⟩ ((hM.o gx trivial rfl).2.trans f_x_38) dX10_far_79 ?_
        case o138 => decide
        refine lv_aload_n hx hb dX10_far_82 rfl (lv_at hl 2 rfl) ?_
        refine hk_getr hx hb hts hC_10 hown hW (gx.S hM) tt_10 91 ?o139 rfl kw_1234 ⟨rfl, rfl, rfl⟩ ((hM.o gx trivial rfl).2.trans f_x_91) dX10_far_83 ?_
        case o139 => decide
        refine lv_iload_n hx hb dX10_far_86 rfl (lv_at hl 4 rfl) ?_
        refine hx_iald hx hb hW hT (gqls.S hM) tt_112 rfl ⟨?o140, ?o141⟩ dX10_far_87 (fun x_42 ex_42 lx_42 ux_42 => ?_)
        case o140 => omega
        case o141 => omega
        have ax_42 : x_42 = lf i2.toNatClampNeg := ex_42.trans (congrFun (hx_afS hM gqls rfl af_qls) _)
        refine hx_iald hx hb hW hT (gqag.S hM) tt_73 rfl ⟨?o142, ?o143⟩ dX10_far_88 (fun x_43 ex_43 lx_43 ux_43 => ?_)
        case o142 => omega
        case o143 => omega
        have ax_43 : x_43 = agf x_42.toNatClampNeg := ex_43.trans (congrFun (hx_afS hM gqag rfl af_qag) _)
        refine hx_iald hx hb hW hT (gqdx.S hM) tt_61 rfl ⟨?o144, ?o145⟩ dX10_far_89 (fun x_44 ex_44 lx_44 ux_44 => ?_)
        case o144 => omega
        case o145 => omega
        have ax_44 : x_44 = dxf x_43.toNatClampNeg := ex_44.trans (congrFun (hx_afS hM gqdx rfl af_qdx) _)
        refine lv_istore (lv' := [(5, .int x_44), (4, .int (50 : Int32)), (3, .int x_4), (0, .ref x), (1, .int i1), (2, .int i2)]) hx hb dX10_far_90 hl ?o146 rfl (fun ls hl => ?_)
        case o146 => decide
        refine lv_iload_n hx hb dX10_far_92 rfl (lv_at hl 5 rfl) ?_
        refine lv_aload_n hx hb dX10_far_93 rfl (lv_at hl 3 rfl) ?_
        refine hk_geti hx hb hts hC_10 hown hW (gx.S hM) tt_10 90 ?o147 rfl kw_1233 ⟨rfl, rfl, rfl⟩ ((hM.o gx trivial rfl).1.trans f_x_90) dX10_far_94 ?_
        case o147 => decide
        refine hb_icmp_ne (zx := i2.toInt) (zy := n0.toInt) (tgt := 105) hx hb rfl rfl dX10_far_97 ?o148 (fun c_45 => ?_) (fun c_45 => ?_)
        case o148 => decide
        · skip
          refine lv_aload_n hx hb dX10_far_105 rfl (lv_at hl 3 rfl) ?_
          refine hk_getr hx hb hts hC_10 hown hW (gx.S hM) tt_10 25 ?o149 rfl kw_1168 ⟨rfl, rfl, rfl⟩ ((hM.o gx trivial rfl).2.trans f_x_25) dX10_far_106 ?_
          case o149 => decide
          refine lv_aload_n hx hb dX10_far_109 rfl (lv_at hl 3 rfl) ?_
          refine hk_getr hx hb hts hC_10 hown hW (gx.S hM) tt_10 38 ?o150 rfl kw_1181 ⟨rfl, rfl, rfl⟩ ((hM.o gx trivial rfl).2.trans f_x_38) dX10_far_110 ?_
          case o150 => decide
          refine lv_aload_n hx hb dX10_far_113 rfl (lv_at hl 3 rfl) ?_
          refine hk_getr hx hb hts hC_10 hown hW (gx.S hM) tt_10 91 ?o151 rfl kw_1234 ⟨rfl, rfl, rfl⟩ ((hM.o gx trivial rfl).2.trans f_x_91) dX10_far_114 ?_
          case o151 => decide
          refine lv_iload_n hx hb dX10_far_117 rfl (lv_at hl 5 rfl) ?_
          refine hx_iald hx hb hW hT (gqls.S hM) tt_112 rfl ⟨?o152, ?o153⟩ dX10_far_118 (fun x_46 ex_46 lx_46 ux_46 => ?_)
          case o152 => omega
          case o153 => omega
          have ax_46 : x_46 = lf i2.toNatClampNeg := ex_46.trans (congrFun (hx_afS hM gqls rfl af_qls) _)
          obtain rfl : x_42 = x_46 := ex_42.trans ex_46.symm
          refine hx_iald hx hb hW hT (gqag.S hM) tt_73 rfl ⟨?o154, ?o155⟩ dX10_far_119 (fun x_47 ex_47 lx_47 ux_47 => ?_)
          case o154 => omega
          case o155 => omega
          have ax_47 : x_47 = agf x_42.toNatClampNeg := ex_47.trans (congrFun (hx_afS hM gqag rfl af_qag) _)
          obtain rfl : x_43 = x_47 := ex_43.trans ex_47.symm
          refine hx_iald hx hb hW hT (gqdy.S hM) tt_62 rfl ⟨?o156, ?o157⟩ dX10_far_120 (fun x_48 ex_48 lx_48 ux_48 => ?_)
          case o156 => omega
          case o157 => omega
          have ax_48 : x_48 = dyf x_43.toNatClampNeg := ex_48.trans (congrFun (hx_afS hM gqdy rfl af_qdy) _)
          refine lv_istore (lv' := [(6, .int x_48), (5, .int x_44), (4, .int (50 : Int32)), (3, .int x_4), (0, .ref x), (1, .int i1), (2, .int i2)]) hx hb dX10_far_121 hl ?o158 rfl (fun ls hl => ?_)
          case o158 => decide
          have hc3 : x_4.toInt = hx_cx lf agf dxf n0.toInt i1.toInt := ?o159
          case o159 =>
            unfold hx_cx
            rw [if_neg (by omega)]
            exact congrArg Int32.toInt (ax_4.trans (congrArg (fun z : Int32 => dxf z.toInt.toNat) (ax_3.trans (congrArg (fun z : Int32 => agf z.toInt.toNat) ax_2))))
          have hc4 : (50 : Int32).toInt = hx_cx lf agf dyf n0.toInt i1.toInt := ?o160
          case o160 =>
            unfold hx_cx
            rw [if_pos (by omega)]
            decide
          have hc5 : x_44.toInt = hx_cx lf agf dxf n0.toInt i2.toInt := ?o161
          case o161 =>
            unfold hx_cx
            rw [if_neg (by omega)]
            exact congrArg Int32.toInt (ax_44.trans (congrArg (fun z : Int32 => dxf z.toInt.toNat) (ax_43.trans (congrArg (fun z : Int32 => agf z.toInt.toNat) ax_42))))
          have hc6 : x_48.toInt = hx_cx lf agf dyf n0.toInt i2.toInt := ?o162
          case o162 =>
            unfold hx_cx
            rw [if_neg (by omega)]
            exact congrArg Int32.toInt (ax_48.trans (congrArg (fun z : Int32 => dyf z.toInt.toNat) (ax_43.trans (congrArg (fun z : Int32 => agf z.toInt.toNat) ax_42))))
          refine lv_iload_n hx hb dX10_far_123 rfl (lv_at hl 3 rfl) ?_
          refine lv_iload hx hb dX10_far_124 (lv_at hl 2 rfl) ?_
          refine lv_iload hx hb dX10_far_126 (lv_at hl 1 rfl) ?_
          refine lv_iload hx hb dX10_far_128 (lv_at hl 0 rfl) ?_
          have zc_50 : (50 : Int32).toInt = 50 := ?o163
          case o163 => decide
          refine hx_goi (hx_runS (As := [.int x_4, .int (50 : Int32), .int x_44, .int x_48]) (rest := []) ⟨hx, hb, hml, hown, hts⟩ hW (t_X10_stepsBetween_2 l dC dI dA L h s.heap.size x_4 (50 : Int32) x_44 x_48 hT ⟨?o164, ?o165⟩ ⟨?o166, ?o167⟩ ⟨?o168, ?o169⟩ ⟨?o170, ?o171⟩) (va_cwS 4 hts (hx_gS kw_1728 kw_1726 kw_1727 kw_103) rfl rfl rfl (by decide +kernel) ⟨Nat.le_of_ble_eq_true rfl, Nat.le_of_ble_eq_true rfl⟩) rfl hl.1 rfl (Nat.le_of_ble_eq_true rfl) dX10_far_130 ⟨Nat.le_of_ble_eq_true rfl, Nat.le_of_ble_eq_true rfl⟩) hW (fun r_51 L_49 h_50 H locs p_52 hW => ?_)
          case o164 => omega
          case o165 => omega
          case o166 => omega
          case o167 => omega
          case o168 => omega
          case o169 => omega
          case o170 => omega
          case o171 => omega
          obtain ⟨hr_53, hT, hs⟩ := p_52
          replace hT : hx_T T_tb L_49 h_50 := hT
          replace hs : hx_S T_tb [] L h L_49 h_50 := hs
          replace ex_2 := ex_2.trans (hs.a (gqls.S hM) rfl _).1.symm
          replace ex_3 := ex_3.trans (hs.a (gqag.S hM) rfl _).1.symm
          replace ex_4 := ex_4.trans (hs.a (gqdx.S hM) rfl _).1.symm
          replace ex_42 := ex_42.trans (hs.a (gqls.S hM) rfl _).1.symm
          replace ex_43 := ex_43.trans (hs.a (gqag.S hM) rfl _).1.symm
          replace ex_44 := ex_44.trans (hs.a (gqdx.S hM) rfl _).1.symm
          replace ex_48 := ex_48.trans (hs.a (gqdy.S hM) rfl _).1.symm
          replace hM := hM.tr (hs.mono ?o172)
          case o172 => decide
          refine hx_reti hx hb hr hlk hW ⟨⟨by unfold hx_fr; rw [← hc3, ← hc4, ← hc5, ← hc6]; exact hr_53.1, ?o173, ?o174⟩, hT, hM⟩ dX10_far_133
          case o173 => omega
          case o174 => omega
        · skip
          refine lv_bipush (v := 50) hx hb dX10_far_100 ?o175 ?_
          case o175 => decide
          refine lv_goto (tgt := 121) hx hb dX10_far_102 ?o176 ?_
          case o176 => decide
          refine lv_istore (lv' := [(6, .int (50 : Int32)), (5, .int x_44), (4, .int (50 : Int32)), (3, .int x_4), (0, .ref x), (1, .int i1), (2, .int i2)]) hx hb dX10_far_121 hl ?o177 rfl (fun ls hl => ?_)
          case o177 => decide
          have hc3 : x_4.toInt = hx_cx lf agf dxf n0.toInt i1.toInt := ?o178
          case o178 =>
            unfold hx_cx
            rw [if_neg (by omega)]
            exact congrArg Int32.toInt (ax_4.trans (congrArg (fun z : Int32 => dxf z.toInt.toNat) (ax_3.trans (congrArg (fun z : Int32 => agf z.toInt.toNat) ax_2))))
          have hc4 : (50 : Int32).toInt = hx_cx lf agf dyf n0.toInt i1.toInt := ?o179
          case o179 =>
            unfold hx_cx
            rw [if_pos (by omega)]
            decide
          have hc5 : x_44.toInt = hx_cx lf agf dxf n0.toInt i2.toInt := ?o180
          case o180 =>
            unfold hx_cx
            rw [if_neg (by omega)]
            exact congrArg Int32.toInt (ax_44.trans (congrArg (fun z : Int32 => dxf z.toInt.toNat) (ax_43.trans (congrArg (fun z : Int32 => agf z.toInt.toNat) ax_42))))
          have hc6 : (50 : Int32).toInt = hx_cx lf agf dyf n0.toInt i2.toInt := ?o181
          case o181 =>
            unfold hx_cx
            rw [if_pos (by omega)]
            decide
          refine lv_iload_n hx hb dX10_far_123 rfl (lv_at hl 3 rfl) ?_
          refine lv_iload hx hb dX10_far_124 (lv_at hl 2 rfl) ?_
          refine lv_iload hx hb dX10_far_126 (lv_at hl 1 rfl) ?_
          refine lv_iload hx hb dX10_far_128 (lv_at hl 0 rfl) ?_
          have zc_50 : (50 : Int32).toInt = 50 := ?o182
          case o182 => decide
          refine hx_goi (hx_runS (As := [.int x_4, .int (50 : Int32), .int x_44, .int (50 : Int32)]) (rest := []) ⟨hx, hb, hml, hown, hts⟩ hW (t_X10_stepsBetween_2 l dC dI dA L h s.heap.size x_4 (50 : Int32) x_44 (50 : Int32) hT ⟨?o183, ?o184⟩ ⟨?o185, ?o186⟩ ⟨?o187, ?o188⟩ ⟨?o189, ?o190⟩) (va_cwS 4 hts (hx_gS kw_1728 kw_1726 kw_1727 kw_103) rfl rfl rfl (by decide +kernel) ⟨Nat.le_of_ble_eq_true rfl, Nat.le_of_ble_eq_true rfl⟩) rfl hl.1 rfl (Nat.le_of_ble_eq_true rfl) dX10_far_130 ⟨Nat.le_of_ble_eq_true rfl, Nat.le_of_ble_eq_true rfl⟩) hW (fun r_56 L_54 h_55 H locs p_57 hW => ?_)
          case o183 => omega
          case o184 => omega
          case o185 => omega
          case o186 => omega
          case o187 => omega
          case o188 => omega
          case o189 => omega
          case o190 => omega
          obtain ⟨hr_58, hT, hs⟩ := p_57
          replace hT : hx_T T_tb L_54 h_55 := hT
          replace hs : hx_S T_tb [] L h L_54 h_55 := hs
          replace ex_2 := ex_2.trans (hs.a (gqls.S hM) rfl _).1.symm
          replace ex_3 := ex_3.trans (hs.a (gqag.S hM) rfl _).1.symm
          replace ex_4 := ex_4.trans (hs.a (gqdx.S hM) rfl _).1.symm
          replace ex_42 := ex_42.trans (hs.a (gqls.S hM) rfl _).1.symm
          replace ex_43 := ex_43.trans (hs.a (gqag.S hM) rfl _).1.symm
          replace ex_44 := ex_44.trans (hs.a (gqdx.S hM) rfl _).1.symm
          replace hM := hM.tr (hs.mono ?o191)
          case o191 => decide
          refine hx_reti hx hb hr hlk hW ⟨⟨by unfold hx_fr; rw [← hc3, ← hc4, ← hc5, ← hc6]; exact hr_58.1, ?o192, ?o193⟩, hT, hM⟩ dX10_far_133
          case o192 => omega
          case o193 => omega
      · skip
        refine lv_bipush (v := 50) hx hb dX10_far_69 ?o194 ?_
        case o194 => decide
        refine lv_goto (tgt := 90) hx hb dX10_far_71 ?o195 ?_
        case o195 => decide
        refine lv_istore (lv' := [(5, .int (50 : Int32)), (4, .int (50 : Int32)), (3, .int x_4), (0, .ref x), (1, .int i1), (2, .int i2)]) hx hb dX10_far_90 hl ?o196 rfl (fun ls hl => ?_)
        case o196 => decide
        refine lv_iload_n hx hb dX10_far_92 rfl (lv_at hl 5 rfl) ?_
        refine lv_aload_n hx hb dX10_far_93 rfl (lv_at hl 3 rfl) ?_
        refine hk_geti hx hb hts hC_10 hown hW (gx.S hM) tt_10 90 ?o197 rfl kw_1233 ⟨rfl, rfl, rfl⟩ ((hM.o gx trivial rfl).1.trans f_x_90) dX10_far_94 ?_
        case o197 => decide
        refine hb_icmp_ne (zx := i2.toInt) (zy := n0.toInt) (tgt := 105) hx hb rfl rfl dX10_far_97 ?o198 (fun c_59 => ?_) (fun c_59 => ?_)
        case o198 => decide
        · skip
          refine lv_aload_n hx hb dX10_far_105 rfl (lv_at hl 3 rfl) ?_
          refine hk_getr hx hb hts hC_10 hown hW (gx.S hM) tt_10 25 ?o199 rfl kw_1168 ⟨rfl, rfl, rfl⟩ ((hM.o gx trivial rfl).2.trans f_x_25) dX10_far_106 ?_
          case o199 => decide
          refine lv_aload_n hx hb dX10_far_109 rfl (lv_at hl 3 rfl) ?_
          refine hk_getr hx hb hts hC_10 hown hW (gx.S hM) tt_10 38 ?o200 rfl kw_1181 ⟨rfl, rfl, rfl⟩ ((hM.o gx trivial rfl).2.trans f_x_38) dX10_far_110 ?_
          case o200 => decide
          refine lv_aload_n hx hb dX10_far_113 rfl (lv_at hl 3 rfl) ?_
          refine hk_getr hx hb hts hC_10 hown hW (gx.S hM) tt_10 91 ?o201 rfl kw_1234 ⟨rfl, rfl, rfl⟩ ((hM.o gx trivial rfl).2.trans f_x_91) dX10_far_114 ?_
          case o201 => decide
          refine lv_iload_n hx hb dX10_far_117 rfl (lv_at hl 5 rfl) ?_
          refine hx_iald hx hb hW hT (gqls.S hM) tt_112 rfl ⟨?o202, ?o203⟩ dX10_far_118 (fun x_60 ex_60 lx_60 ux_60 => ?_)
          case o202 => omega
          case o203 => omega
          have ax_60 : x_60 = lf i2.toNatClampNeg := ex_60.trans (congrFun (hx_afS hM gqls rfl af_qls) _)
          refine hx_iald hx hb hW hT (gqag.S hM) tt_73 rfl ⟨?o204, ?o205⟩ dX10_far_119 (fun x_61 ex_61 lx_61 ux_61 => ?_)
          case o204 => omega
          case o205 => omega
          have ax_61 : x_61 = agf x_60.toNatClampNeg := ex_61.trans (congrFun (hx_afS hM gqag rfl af_qag) _)
          refine hx_iald hx hb hW hT (gqdy.S hM) tt_62 rfl ⟨?o206, ?o207⟩ dX10_far_120 (fun x_62 ex_62 lx_62 ux_62 => ?_)
          case o206 => omega
          case o207 => omega
          have ax_62 : x_62 = dyf x_61.toNatClampNeg := ex_62.trans (congrFun (hx_afS hM gqdy rfl af_qdy) _)
          refine lv_istore (lv' := [(6, .int x_62), (5, .int (50 : Int32)), (4, .int (50 : Int32)), (3, .int x_4), (0, .ref x), (1, .int i1), (2, .int i2)]) hx hb dX10_far_121 hl ?o208 rfl (fun ls hl => ?_)
          case o208 => decide
          have hc3 : x_4.toInt = hx_cx lf agf dxf n0.toInt i1.toInt := ?o209
          case o209 =>
            unfold hx_cx
            rw [if_neg (by omega)]
            exact congrArg Int32.toInt (ax_4.trans (congrArg (fun z : Int32 => dxf z.toInt.toNat) (ax_3.trans (congrArg (fun z : Int32 => agf z.toInt.toNat) ax_2))))
          have hc4 : (50 : Int32).toInt = hx_cx lf agf dyf n0.toInt i1.toInt := ?o210
          case o210 =>
            unfold hx_cx
            rw [if_pos (by omega)]
            decide
          have hc5 : (50 : Int32).toInt = hx_cx lf agf dxf n0.toInt i2.toInt := ?o211
          case o211 =>
            unfold hx_cx
            rw [if_pos (by omega)]
            decide
          have hc6 : x_62.toInt = hx_cx lf agf dyf n0.toInt i2.toInt := ?o212
          case o212 =>
            unfold hx_cx
            rw [if_neg (by omega)]
            exact congrArg Int32.toInt (ax_62.trans (congrArg (fun z : Int32 => dyf z.toInt.toNat) (ax_61.trans (congrArg (fun z : Int32 => agf z.toInt.toNat) ax_60))))
          refine lv_iload_n hx hb dX10_far_123 rfl (lv_at hl 3 rfl) ?_
          refine lv_iload hx hb dX10_far_124 (lv_at hl 2 rfl) ?_
          refine lv_iload hx hb dX10_far_126 (lv_at hl 1 rfl) ?_
          refine lv_iload hx hb dX10_far_128 (lv_at hl 0 rfl) ?_
          have zc_50 : (50 : Int32).toInt = 50 := ?o213
          case o213 => decide
          refine hx_goi (hx_runS (As := [.int x_4, .int (50 : Int32), .int (50 : Int32), .int x_62]) (rest := []) ⟨hx, hb, hml, hown, hts⟩ hW (t_X10_stepsBetween_2 l dC dI dA L h s.heap.size x_4 (50 : Int32) (50 : Int32) x_62 hT ⟨?o214, ?o215⟩ ⟨?o216, ?o217⟩ ⟨?o218, ?o219⟩ ⟨?o220, ?o221⟩) (va_cwS 4 hts (hx_gS kw_1728 kw_1726 kw_1727 kw_103) rfl rfl rfl (by decide +kernel) ⟨Nat.le_of_ble_eq_true rfl, Nat.le_of_ble_eq_true rfl⟩) rfl hl.1 rfl (Nat.le_of_ble_eq_true rfl) dX10_far_130 ⟨Nat.le_of_ble_eq_true rfl, Nat.le_of_ble_eq_true rfl⟩) hW (fun r_65 L_63 h_64 H locs p_66 hW => ?_)
          case o214 => omega
          case o215 => omega
          case o216 => omega
          case o217 => omega
          case o218 => omega
          case o219 => omega
          case o220 => omega
          case o221 => omega
          obtain ⟨hr_67, hT, hs⟩ := p_66
          replace hT : hx_T T_tb L_63 h_64 := hT
          replace hs : hx_S T_tb [] L h L_63 h_64 := hs
          replace ex_2 := ex_2.trans (hs.a (gqls.S hM) rfl _).1.symm
          replace ex_3 := ex_3.trans (hs.a (gqag.S hM) rfl _).1.symm
          replace ex_4 := ex_4.trans (hs.a (gqdx.S hM) rfl _).1.symm
          replace ex_60 := ex_60.trans (hs.a (gqls.S hM) rfl _).1.symm
          replace ex_61 := ex_61.trans (hs.a (gqag.S hM) rfl _).1.symm
          replace ex_62 := ex_62.trans (hs.a (gqdy.S hM) rfl _).1.symm
          replace hM := hM.tr (hs.mono ?o222)
          case o222 => decide
          refine hx_reti hx hb hr hlk hW ⟨⟨by unfold hx_fr; rw [← hc3, ← hc4, ← hc5, ← hc6]; exact hr_67.1, ?o223, ?o224⟩, hT, hM⟩ dX10_far_133
          case o223 => omega
          case o224 => omega
        · skip
          refine lv_bipush (v := 50) hx hb dX10_far_100 ?o225 ?_
          case o225 => decide
          refine lv_goto (tgt := 121) hx hb dX10_far_102 ?o226 ?_
          case o226 => decide
          refine lv_istore (lv' := [(6, .int (50 : Int32)), (5, .int (50 : Int32)), (4, .int (50 : Int32)), (3, .int x_4), (0, .ref x), (1, .int i1), (2, .int i2)]) hx hb dX10_far_121 hl ?o227 rfl (fun ls hl => ?_)
          case o227 => decide
          have hc3 : x_4.toInt = hx_cx lf agf dxf n0.toInt i1.toInt := ?o228
          case o228 =>
            unfold hx_cx
            rw [if_neg (by omega)]
            exact congrArg Int32.toInt (ax_4.trans (congrArg (fun z : Int32 => dxf z.toInt.toNat) (ax_3.trans (congrArg (fun z : Int32 => agf z.toInt.toNat) ax_2))))
          have hc4 : (50 : Int32).toInt = hx_cx lf agf dyf n0.toInt i1.toInt := ?o229
          case o229 =>
            unfold hx_cx
            rw [if_pos (by omega)]
            decide
          have hc5 : (50 : Int32).toInt = hx_cx lf agf dxf n0.toInt i2.toInt := ?o230
          case o230 =>
            unfold hx_cx
            rw [if_pos (by omega)]
            decide
          have hc6 : (50 : Int32).toInt = hx_cx lf agf dyf n0.toInt i2.toInt := ?o231
          case o231 =>
            unfold hx_cx
            rw [if_pos (by omega)]
            decide
          refine lv_iload_n hx hb dX10_far_123 rfl (lv_at hl 3 rfl) ?_
          refine lv_iload hx hb dX10_far_124 (lv_at hl 2 rfl) ?_
          refine lv_iload hx hb dX10_far_126 (lv_at hl 1 rfl) ?_
          refine lv_iload hx hb dX10_far_128 (lv_at hl 0 rfl) ?_
          have zc_50 : (50 : Int32).toInt = 50 := ?o232
          case o232 => decide
          refine hx_goi (hx_runS (As := [.int x_4, .int (50 : Int32), .int (50 : Int32), .int (50 : Int32)]) (rest := []) ⟨hx, hb, hml, hown, hts⟩ hW (t_X10_stepsBetween_2 l dC dI dA L h s.heap.size x_4 (50 : Int32) (50 : Int32) (50 : Int32) hT ⟨?o233, ?o234⟩ ⟨?o235, ?o236⟩ ⟨?o237, ?o238⟩ ⟨?o239, ?o240⟩) (va_cwS 4 hts (hx_gS kw_1728 kw_1726 kw_1727 kw_103) rfl rfl rfl (by decide +kernel) ⟨Nat.le_of_ble_eq_true rfl, Nat.le_of_ble_eq_true rfl⟩) rfl hl.1 rfl (Nat.le_of_ble_eq_true rfl) dX10_far_130 ⟨Nat.le_of_ble_eq_true rfl, Nat.le_of_ble_eq_true rfl⟩) hW (fun r_70 L_68 h_69 H locs p_71 hW => ?_)
          case o233 => omega
          case o234 => omega
          case o235 => omega
          case o236 => omega
          case o237 => omega
          case o238 => omega
          case o239 => omega
          case o240 => omega
          obtain ⟨hr_72, hT, hs⟩ := p_71
          replace hT : hx_T T_tb L_68 h_69 := hT
          replace hs : hx_S T_tb [] L h L_68 h_69 := hs
          replace ex_2 := ex_2.trans (hs.a (gqls.S hM) rfl _).1.symm
          replace ex_3 := ex_3.trans (hs.a (gqag.S hM) rfl _).1.symm
          replace ex_4 := ex_4.trans (hs.a (gqdx.S hM) rfl _).1.symm
          replace hM := hM.tr (hs.mono ?o241)
          case o241 => decide
          refine hx_reti hx hb hr hlk hW ⟨⟨by unfold hx_fr; rw [← hc3, ← hc4, ← hc5, ← hc6]; exact hr_72.1, ?o242, ?o243⟩, hT, hM⟩ dX10_far_133
          case o242 => omega
          case o243 => omega
  · skip
    refine lv_bipush (v := 50) hx hb dX10_far_8 ?o244 ?_
    case o244 => decide
    refine lv_goto (tgt := 29) hx hb dX10_far_10 ?o245 ?_
    case o245 => decide
    refine lv_istore_n (lv' := [(3, .int (50 : Int32)), (0, .ref x), (1, .int i1), (2, .int i2)]) hx hb dX10_far_29 rfl hl ?o246 rfl (fun ls hl => ?_)
    case o246 => decide
    refine lv_iload_n hx hb dX10_far_30 rfl (lv_at hl 2 rfl) ?_
    refine lv_aload_n hx hb dX10_far_31 rfl (lv_at hl 1 rfl) ?_
    refine hk_geti hx hb hts hC_10 hown hW (gx.S hM) tt_10 90 ?o247 rfl kw_1233 ⟨rfl, rfl, rfl⟩ ((hM.o gx trivial rfl).1.trans f_x_90) dX10_far_32 ?_
    case o247 => decide
    refine hb_icmp_ne (zx := i1.toInt) (zy := n0.toInt) (tgt := 43) hx hb rfl rfl dX10_far_35 ?o248 (fun c_73 => ?_) (fun c_73 => ?_)
    case o248 => decide
    · skip
      refine lv_aload_n hx hb dX10_far_43 rfl (lv_at hl 1 rfl) ?_
      refine hk_getr hx hb hts hC_10 hown hW (gx.S hM) tt_10 25 ?o249 rfl kw_1168 ⟨rfl, rfl, rfl⟩ ((hM.o gx trivial rfl).2.trans f_x_25) dX10_far_44 ?_
      case o249 => decide
      refine lv_aload_n hx hb dX10_far_47 rfl (lv_at hl 1 rfl) ?_
      refine hk_getr hx hb hts hC_10 hown hW (gx.S hM) tt_10 38 ?o250 rfl kw_1181 ⟨rfl, rfl, rfl⟩ ((hM.o gx trivial rfl).2.trans f_x_38) dX10_far_48 ?_
      case o250 => decide
      refine lv_aload_n hx hb dX10_far_51 rfl (lv_at hl 1 rfl) ?_
      refine hk_getr hx hb hts hC_10 hown hW (gx.S hM) tt_10 91 ?o251 rfl kw_1234 ⟨rfl, rfl, rfl⟩ ((hM.o gx trivial rfl).2.trans f_x_91) dX10_far_52 ?_
      case o251 => decide
      refine lv_iload_n hx hb dX10_far_55 rfl (lv_at hl 2 rfl) ?_
      refine hx_iald hx hb hW hT (gqls.S hM) tt_112 rfl ⟨?o252, ?o253⟩ dX10_far_56 (fun x_74 ex_74 lx_74 ux_74 => ?_)
      case o252 => omega
      case o253 => omega
      have ax_74 : x_74 = lf i1.toNatClampNeg := ex_74.trans (congrFun (hx_afS hM gqls rfl af_qls) _)
      refine hx_iald hx hb hW hT (gqag.S hM) tt_73 rfl ⟨?o254, ?o255⟩ dX10_far_57 (fun x_75 ex_75 lx_75 ux_75 => ?_)
      case o254 => omega
      case o255 => omega
      have ax_75 : x_75 = agf x_74.toNatClampNeg := ex_75.trans (congrFun (hx_afS hM gqag rfl af_qag) _)
      refine hx_iald hx hb hW hT (gqdy.S hM) tt_62 rfl ⟨?o256, ?o257⟩ dX10_far_58 (fun x_76 ex_76 lx_76 ux_76 => ?_)
      case o256 => omega
      case o257 => omega
      have ax_76 : x_76 = dyf x_75.toNatClampNeg := ex_76.trans (congrFun (hx_afS hM gqdy rfl af_qdy) _)
      refine lv_istore (lv' := [(4, .int x_76), (3, .int (50 : Int32)), (0, .ref x), (1, .int i1), (2, .int i2)]) hx hb dX10_far_59 hl ?o258 rfl (fun ls hl => ?_)
      case o258 => decide
      refine lv_iload_n hx hb dX10_far_61 rfl (lv_at hl 4 rfl) ?_
      refine lv_aload_n hx hb dX10_far_62 rfl (lv_at hl 2 rfl) ?_
      refine hk_geti hx hb hts hC_10 hown hW (gx.S hM) tt_10 90 ?o259 rfl kw_1233 ⟨rfl, rfl, rfl⟩ ((hM.o gx trivial rfl).1.trans f_x_90) dX10_far_63 ?_
      case o259 => decide
      refine hb_icmp_ne (zx := i2.toInt) (zy := n0.toInt) (tgt := 74) hx hb rfl rfl dX10_far_66 ?o260 (fun c_77 => ?_) (fun c_77 => ?_)
      case o260 => decide
      · skip
        refine lv_aload_n hx hb dX10_far_74 rfl (lv_at hl 2 rfl) ?_
        refine hk_getr hx hb hts hC_10 hown hW (gx.S hM) tt_10 24 ?o261 rfl kw_1167 ⟨rfl, rfl, rfl⟩ ((hM.o gx trivial rfl).2.trans f_x_24) dX10_far_75 ?_
        case o261 => decide
        refine lv_aload_n hx hb dX10_far_78 rfl (lv_at hl 2 rfl) ?_
        refine hk_getr hx hb hts hC_10 hown hW (gx.S hM) tt_10 38 ?o262 rfl kw_1181 ⟨rfl, rfl, rfl⟩ ((hM.o gx trivial rfl).2.trans f_x_38) dX10_far_79 ?_
        case o262 => decide
        refine lv_aload_n hx hb dX10_far_82 rfl (lv_at hl 2 rfl) ?_
        refine hk_getr hx hb hts hC_10 hown hW (gx.S hM) tt_10 91 ?o263 rfl kw_1234 ⟨rfl, rfl, rfl⟩ ((hM.o gx trivial rfl).2.trans f_x_91) dX10_far_83 ?_
        case o263 => decide
        refine lv_iload_n hx hb dX10_far_86 rfl (lv_at hl 4 rfl) ?_
        refine hx_iald hx hb hW hT (gqls.S hM) tt_112 rfl ⟨?o264, ?o265⟩ dX10_far_87 (fun x_78 ex_78 lx_78 ux_78 => ?_)
        case o264 => omega
        case o265 => omega
        have ax_78 : x_78 = lf i2.toNatClampNeg := ex_78.trans (congrFun (hx_afS hM gqls rfl af_qls) _)
        refine hx_iald hx hb hW hT (gqag.S hM) tt_73 rfl ⟨?o266, ?o267⟩ dX10_far_88 (fun x_79 ex_79 lx_79 ux_79 => ?_)
        case o266 => omega
        case o267 => omega
        have ax_79 : x_79 = agf x_78.toNatClampNeg := ex_79.trans (congrFun (hx_afS hM gqag rfl af_qag) _)
        refine hx_iald hx hb hW hT (gqdx.S hM) tt_61 rfl ⟨?o268, ?o269⟩ dX10_far_89 (fun x_80 ex_80 lx_80 ux_80 => ?_)
        case o268 => omega
        case o269 => omega
        have ax_80 : x_80 = dxf x_79.toNatClampNeg := ex_80.trans (congrFun (hx_afS hM gqdx rfl af_qdx) _)
        refine lv_istore (lv' := [(5, .int x_80), (4, .int x_76), (3, .int (50 : Int32)), (0, .ref x), (1, .int i1), (2, .int i2)]) hx hb dX10_far_90 hl ?o270 rfl (fun ls hl => ?_)
        case o270 => decide
        refine lv_iload_n hx hb dX10_far_92 rfl (lv_at hl 5 rfl) ?_
        refine lv_aload_n hx hb dX10_far_93 rfl (lv_at hl 3 rfl) ?_
        refine hk_geti hx hb hts hC_10 hown hW (gx.S hM) tt_10 90 ?o271 rfl kw_1233 ⟨rfl, rfl, rfl⟩ ((hM.o gx trivial rfl).1.trans f_x_90) dX10_far_94 ?_
        case o271 => decide
        refine hb_icmp_ne (zx := i2.toInt) (zy := n0.toInt) (tgt := 105) hx hb rfl rfl dX10_far_97 ?o272 (fun c_81 => ?_) (fun c_81 => ?_)
        case o272 => decide
        · skip
          refine lv_aload_n hx hb dX10_far_105 rfl (lv_at hl 3 rfl) ?_
          refine hk_getr hx hb hts hC_10 hown hW (gx.S hM) tt_10 25 ?o273 rfl kw_1168 ⟨rfl, rfl, rfl⟩ ((hM.o gx trivial rfl).2.trans f_x_25) dX10_far_106 ?_
          case o273 => decide
          refine lv_aload_n hx hb dX10_far_109 rfl (lv_at hl 3 rfl) ?_
          refine hk_getr hx hb hts hC_10 hown hW (gx.S hM) tt_10 38 ?o274 rfl kw_1181 ⟨rfl, rfl, rfl⟩ ((hM.o gx trivial rfl).2.trans f_x_38) dX10_far_110 ?_
          case o274 => decide
          refine lv_aload_n hx hb dX10_far_113 rfl (lv_at hl 3 rfl) ?_
          refine hk_getr hx hb hts hC_10 hown hW (gx.S hM) tt_10 91 ?o275 rfl kw_1234 ⟨rfl, rfl, rfl⟩ ((hM.o gx trivial rfl).2.trans f_x_91) dX10_far_114 ?_
          case o275 => decide
          refine lv_iload_n hx hb dX10_far_117 rfl (lv_at hl 5 rfl) ?_
          refine hx_iald hx hb hW hT (gqls.S hM) tt_112 rfl ⟨?o276, ?o277⟩ dX10_far_118 (fun x_82 ex_82 lx_82 ux_82 => ?_)
          case o276 => omega
          case o277 => omega
          have ax_82 : x_82 = lf i2.toNatClampNeg := ex_82.trans (congrFun (hx_afS hM gqls rfl af_qls) _)
          obtain rfl : x_78 = x_82 := ex_78.trans ex_82.symm
          refine hx_iald hx hb hW hT (gqag.S hM) tt_73 rfl ⟨?o278, ?o279⟩ dX10_far_119 (fun x_83 ex_83 lx_83 ux_83 => ?_)
          case o278 => omega
          case o279 => omega
          have ax_83 : x_83 = agf x_78.toNatClampNeg := ex_83.trans (congrFun (hx_afS hM gqag rfl af_qag) _)
          obtain rfl : x_79 = x_83 := ex_79.trans ex_83.symm
          refine hx_iald hx hb hW hT (gqdy.S hM) tt_62 rfl ⟨?o280, ?o281⟩ dX10_far_120 (fun x_84 ex_84 lx_84 ux_84 => ?_)
          case o280 => omega
          case o281 => omega
          have ax_84 : x_84 = dyf x_79.toNatClampNeg := ex_84.trans (congrFun (hx_afS hM gqdy rfl af_qdy) _)
          refine lv_istore (lv' := [(6, .int x_84), (5, .int x_80), (4, .int x_76), (3, .int (50 : Int32)), (0, .ref x), (1, .int i1), (2, .int i2)]) hx hb dX10_far_121 hl ?o282 rfl (fun ls hl => ?_)
          case o282 => decide
          have hc3 : (50 : Int32).toInt = hx_cx lf agf dxf n0.toInt i1.toInt := ?o283
          case o283 =>
            unfold hx_cx
            rw [if_pos (by omega)]
            decide
          have hc4 : x_76.toInt = hx_cx lf agf dyf n0.toInt i1.toInt := ?o284
          case o284 =>
            unfold hx_cx
            rw [if_neg (by omega)]
            exact congrArg Int32.toInt (ax_76.trans (congrArg (fun z : Int32 => dyf z.toInt.toNat) (ax_75.trans (congrArg (fun z : Int32 => agf z.toInt.toNat) ax_74))))
          have hc5 : x_80.toInt = hx_cx lf agf dxf n0.toInt i2.toInt := ?o285
          case o285 =>
            unfold hx_cx
            rw [if_neg (by omega)]
            exact congrArg Int32.toInt (ax_80.trans (congrArg (fun z : Int32 => dxf z.toInt.toNat) (ax_79.trans (congrArg (fun z : Int32 => agf z.toInt.toNat) ax_78))))
          have hc6 : x_84.toInt = hx_cx lf agf dyf n0.toInt i2.toInt := ?o286
          case o286 =>
            unfold hx_cx
            rw [if_neg (by omega)]
            exact congrArg Int32.toInt (ax_84.trans (congrArg (fun z : Int32 => dyf z.toInt.toNat) (ax_79.trans (congrArg (fun z : Int32 => agf z.toInt.toNat) ax_78))))
          refine lv_iload_n hx hb dX10_far_123 rfl (lv_at hl 3 rfl) ?_
          refine lv_iload hx hb dX10_far_124 (lv_at hl 2 rfl) ?_
          refine lv_iload hx hb dX10_far_126 (lv_at hl 1 rfl) ?_
          refine lv_iload hx hb dX10_far_128 (lv_at hl 0 rfl) ?_
          have zc_50 : (50 : Int32).toInt = 50 := ?o287
          case o287 => decide
          refine hx_goi (hx_runS (As := [.int (50 : Int32), .int x_76, .int x_80, .int x_84]) (rest := []) ⟨hx, hb, hml, hown, hts⟩ hW (t_X10_stepsBetween_2 l dC dI dA L h s.heap.size (50 : Int32) x_76 x_80 x_84 hT ⟨?o288, ?o289⟩ ⟨?o290, ?o291⟩ ⟨?o292, ?o293⟩ ⟨?o294, ?o295⟩) (va_cwS 4 hts (hx_gS kw_1728 kw_1726 kw_1727 kw_103) rfl rfl rfl (by decide +kernel) ⟨Nat.le_of_ble_eq_true rfl, Nat.le_of_ble_eq_true rfl⟩) rfl hl.1 rfl (Nat.le_of_ble_eq_true rfl) dX10_far_130 ⟨Nat.le_of_ble_eq_true rfl, Nat.le_of_ble_eq_true rfl⟩) hW (fun r_87 L_85 h_86 H locs p_88 hW => ?_)
          case o288 => omega
          case o289 => omega
          case o290 => omega
          case o291 => omega
          case o292 => omega
          case o293 => omega
          case o294 => omega
          case o295 => omega
          obtain ⟨hr_89, hT, hs⟩ := p_88
          replace hT : hx_T T_tb L_85 h_86 := hT
          replace hs : hx_S T_tb [] L h L_85 h_86 := hs
          replace ex_74 := ex_74.trans (hs.a (gqls.S hM) rfl _).1.symm
          replace ex_75 := ex_75.trans (hs.a (gqag.S hM) rfl _).1.symm
          replace ex_76 := ex_76.trans (hs.a (gqdy.S hM) rfl _).1.symm
          replace ex_78 := ex_78.trans (hs.a (gqls.S hM) rfl _).1.symm
          replace ex_79 := ex_79.trans (hs.a (gqag.S hM) rfl _).1.symm
          replace ex_80 := ex_80.trans (hs.a (gqdx.S hM) rfl _).1.symm
          replace ex_84 := ex_84.trans (hs.a (gqdy.S hM) rfl _).1.symm
          replace hM := hM.tr (hs.mono ?o296)
          case o296 => decide
          refine hx_reti hx hb hr hlk hW ⟨⟨by unfold hx_fr; rw [← hc3, ← hc4, ← hc5, ← hc6]; exact hr_89.1, ?o297, ?o298⟩, hT, hM⟩ dX10_far_133
          case o297 => omega
          case o298 => omega
        · skip
          refine lv_bipush (v := 50) hx hb dX10_far_100 ?o299 ?_
          case o299 => decide
          refine lv_goto (tgt := 121) hx hb dX10_far_102 ?o300 ?_
          case o300 => decide
          refine lv_istore (lv' := [(6, .int (50 : Int32)), (5, .int x_80), (4, .int x_76), (3, .int (50 : Int32)), (0, .ref x), (1, .int i1), (2, .int i2)]) hx hb dX10_far_121 hl ?o301 rfl (fun ls hl => ?_)
          case o301 => decide
          have hc3 : (50 : Int32).toInt = hx_cx lf agf dxf n0.toInt i1.toInt := ?o302
          case o302 =>
            unfold hx_cx
            rw [if_pos (by omega)]
            decide
          have hc4 : x_76.toInt = hx_cx lf agf dyf n0.toInt i1.toInt := ?o303
          case o303 =>
            unfold hx_cx
            rw [if_neg (by omega)]
            exact congrArg Int32.toInt (ax_76.trans (congrArg (fun z : Int32 => dyf z.toInt.toNat) (ax_75.trans (congrArg (fun z : Int32 => agf z.toInt.toNat) ax_74))))
          have hc5 : x_80.toInt = hx_cx lf agf dxf n0.toInt i2.toInt := ?o304
          case o304 =>
            unfold hx_cx
            rw [if_neg (by omega)]
            exact congrArg Int32.toInt (ax_80.trans (congrArg (fun z : Int32 => dxf z.toInt.toNat) (ax_79.trans (congrArg (fun z : Int32 => agf z.toInt.toNat) ax_78))))
          have hc6 : (50 : Int32).toInt = hx_cx lf agf dyf n0.toInt i2.toInt := ?o305
          case o305 =>
            unfold hx_cx
            rw [if_pos (by omega)]
            decide
          refine lv_iload_n hx hb dX10_far_123 rfl (lv_at hl 3 rfl) ?_
          refine lv_iload hx hb dX10_far_124 (lv_at hl 2 rfl) ?_
          refine lv_iload hx hb dX10_far_126 (lv_at hl 1 rfl) ?_
          refine lv_iload hx hb dX10_far_128 (lv_at hl 0 rfl) ?_
          have zc_50 : (50 : Int32).toInt = 50 := ?o306
          case o306 => decide
          refine hx_goi (hx_runS (As := [.int (50 : Int32), .int x_76, .int x_80, .int (50 : Int32)]) (rest := []) ⟨hx, hb, hml, hown, hts⟩ hW (t_X10_stepsBetween_2 l dC dI dA L h s.heap.size (50 : Int32) x_76 x_80 (50 : Int32) hT ⟨?o307, ?o308⟩ ⟨?o309, ?o310⟩ ⟨?o311, ?o312⟩ ⟨?o313, ?o314⟩) (va_cwS 4 hts (hx_gS kw_1728 kw_1726 kw_1727 kw_103) rfl rfl rfl (by decide +kernel) ⟨Nat.le_of_ble_eq_true rfl, Nat.le_of_ble_eq_true rfl⟩) rfl hl.1 rfl (Nat.le_of_ble_eq_true rfl) dX10_far_130 ⟨Nat.le_of_ble_eq_true rfl, Nat.le_of_ble_eq_true rfl⟩) hW (fun r_92 L_90 h_91 H locs p_93 hW => ?_)
          case o307 => omega
          case o308 => omega
          case o309 => omega
          case o310 => omega
          case o311 => omega
          case o312 => omega
          case o313 => omega
          case o314 => omega
          obtain ⟨hr_94, hT, hs⟩ := p_93
          replace hT : hx_T T_tb L_90 h_91 := hT
          replace hs : hx_S T_tb [] L h L_90 h_91 := hs
          replace ex_74 := ex_74.trans (hs.a (gqls.S hM) rfl _).1.symm
          replace ex_75 := ex_75.trans (hs.a (gqag.S hM) rfl _).1.symm
          replace ex_76 := ex_76.trans (hs.a (gqdy.S hM) rfl _).1.symm
          replace ex_78 := ex_78.trans (hs.a (gqls.S hM) rfl _).1.symm
          replace ex_79 := ex_79.trans (hs.a (gqag.S hM) rfl _).1.symm
          replace ex_80 := ex_80.trans (hs.a (gqdx.S hM) rfl _).1.symm
          replace hM := hM.tr (hs.mono ?o315)
          case o315 => decide
          refine hx_reti hx hb hr hlk hW ⟨⟨by unfold hx_fr; rw [← hc3, ← hc4, ← hc5, ← hc6]; exact hr_94.1, ?o316, ?o317⟩, hT, hM⟩ dX10_far_133
          case o316 => omega
          case o317 => omega
      · skip
        refine lv_bipush (v := 50) hx hb dX10_far_69 ?o318 ?_
        case o318 => decide
        refine lv_goto (tgt := 90) hx hb dX10_far_71 ?o319 ?_
        case o319 => decide
        refine lv_istore (lv' := [(5, .int (50 : Int32)), (4, .int x_76), (3, .int (50 : Int32)), (0, .ref x), (1, .int i1), (2, .int i2)]) hx hb dX10_far_90 hl ?o320 rfl (fun ls hl => ?_)
        case o320 => decide
        refine lv_iload_n hx hb dX10_far_92 rfl (lv_at hl 5 rfl) ?_
        refine lv_aload_n hx hb dX10_far_93 rfl (lv_at hl 3 rfl) ?_
        refine hk_geti hx hb hts hC_10 hown hW (gx.S hM) tt_10 90 ?o321 rfl kw_1233 ⟨rfl, rfl, rfl⟩ ((hM.o gx trivial rfl).1.trans f_x_90) dX10_far_94 ?_
        case o321 => decide
        refine hb_icmp_ne (zx := i2.toInt) (zy := n0.toInt) (tgt := 105) hx hb rfl rfl dX10_far_97 ?o322 (fun c_95 => ?_) (fun c_95 => ?_)
        case o322 => decide
        · skip
          refine lv_aload_n hx hb dX10_far_105 rfl (lv_at hl 3 rfl) ?_
          refine hk_getr hx hb hts hC_10 hown hW (gx.S hM) tt_10 25 ?o323 rfl kw_1168 ⟨rfl, rfl, rfl⟩ ((hM.o gx trivial rfl).2.trans f_x_25) dX10_far_106 ?_
          case o323 => decide
          refine lv_aload_n hx hb dX10_far_109 rfl (lv_at hl 3 rfl) ?_
          refine hk_getr hx hb hts hC_10 hown hW (gx.S hM) tt_10 38 ?o324 rfl kw_1181 ⟨rfl, rfl, rfl⟩ ((hM.o gx trivial rfl).2.trans f_x_38) dX10_far_110 ?_
          case o324 => decide
          refine lv_aload_n hx hb dX10_far_113 rfl (lv_at hl 3 rfl) ?_
          refine hk_getr hx hb hts hC_10 hown hW (gx.S hM) tt_10 91 ?o325 rfl kw_1234 ⟨rfl, rfl, rfl⟩ ((hM.o gx trivial rfl).2.trans f_x_91) dX10_far_114 ?_
          case o325 => decide
          refine lv_iload_n hx hb dX10_far_117 rfl (lv_at hl 5 rfl) ?_
          refine hx_iald hx hb hW hT (gqls.S hM) tt_112 rfl ⟨?o326, ?o327⟩ dX10_far_118 (fun x_96 ex_96 lx_96 ux_96 => ?_)
          case o326 => omega
          case o327 => omega
          have ax_96 : x_96 = lf i2.toNatClampNeg := ex_96.trans (congrFun (hx_afS hM gqls rfl af_qls) _)
          refine hx_iald hx hb hW hT (gqag.S hM) tt_73 rfl ⟨?o328, ?o329⟩ dX10_far_119 (fun x_97 ex_97 lx_97 ux_97 => ?_)
          case o328 => omega
          case o329 => omega
          have ax_97 : x_97 = agf x_96.toNatClampNeg := ex_97.trans (congrFun (hx_afS hM gqag rfl af_qag) _)
          refine hx_iald hx hb hW hT (gqdy.S hM) tt_62 rfl ⟨?o330, ?o331⟩ dX10_far_120 (fun x_98 ex_98 lx_98 ux_98 => ?_)
          case o330 => omega
          case o331 => omega
          have ax_98 : x_98 = dyf x_97.toNatClampNeg := ex_98.trans (congrFun (hx_afS hM gqdy rfl af_qdy) _)
          refine lv_istore (lv' := [(6, .int x_98), (5, .int (50 : Int32)), (4, .int x_76), (3, .int (50 : Int32)), (0, .ref x), (1, .int i1), (2, .int i2)]) hx hb dX10_far_121 hl ?o332 rfl (fun ls hl => ?_)
          case o332 => decide
          have hc3 : (50 : Int32).toInt = hx_cx lf agf dxf n0.toInt i1.toInt := ?o333
          case o333 =>
            unfold hx_cx
            rw [if_pos (by omega)]
            decide
          have hc4 : x_76.toInt = hx_cx lf agf dyf n0.toInt i1.toInt := ?o334
          case o334 =>
            unfold hx_cx
            rw [if_neg (by omega)]
            exact congrArg Int32.toInt (ax_76.trans (congrArg (fun z : Int32 => dyf z.toInt.toNat) (ax_75.trans (congrArg (fun z : Int32 => agf z.toInt.toNat) ax_74))))
          have hc5 : (50 : Int32).toInt = hx_cx lf agf dxf n0.toInt i2.toInt := ?o335
          case o335 =>
            unfold hx_cx
            rw [if_pos (by omega)]
            decide
          have hc6 : x_98.toInt = hx_cx lf agf dyf n0.toInt i2.toInt := ?o336
          case o336 =>
            unfold hx_cx
            rw [if_neg (by omega)]
            exact congrArg Int32.toInt (ax_98.trans (congrArg (fun z : Int32 => dyf z.toInt.toNat) (ax_97.trans (congrArg (fun z : Int32 => agf z.toInt.toNat) ax_96))))
          refine lv_iload_n hx hb dX10_far_123 rfl (lv_at hl 3 rfl) ?_
          refine lv_iload hx hb dX10_far_124 (lv_at hl 2 rfl) ?_
          refine lv_iload hx hb dX10_far_126 (lv_at hl 1 rfl) ?_
          refine lv_iload hx hb dX10_far_128 (lv_at hl 0 rfl) ?_
          have zc_50 : (50 : Int32).toInt = 50 := ?o337
          case o337 => decide
          refine hx_goi (hx_runS (As := [.int (50 : Int32), .int x_76, .int (50 : Int32), .int x_98]) (rest := []) ⟨hx, hb, hml, hown, hts⟩ hW (t_X10_stepsBetween_2 l dC dI dA L h s.heap.size (50 : Int32) x_76 (50 : Int32) x_98 hT ⟨?o338, ?o339⟩ ⟨?o340, ?o341⟩ ⟨?o342, ?o343⟩ ⟨?o344, ?o345⟩) (va_cwS 4 hts (hx_gS kw_1728 kw_1726 kw_1727 kw_103) rfl rfl rfl (by decide +kernel) ⟨Nat.le_of_ble_eq_true rfl, Nat.le_of_ble_eq_true rfl⟩) rfl hl.1 rfl (Nat.le_of_ble_eq_true rfl) dX10_far_130 ⟨Nat.le_of_ble_eq_true rfl, Nat.le_of_ble_eq_true rfl⟩) hW (fun r_101 L_99 h_100 H locs p_102 hW => ?_)
          case o338 => omega
          case o339 => omega
          case o340 => omega
          case o341 => omega
          case o342 => omega
          case o343 => omega
          case o344 => omega
          case o345 => omega
          obtain ⟨hr_103, hT, hs⟩ := p_102
          replace hT : hx_T T_tb L_99 h_100 := hT
          replace hs : hx_S T_tb [] L h L_99 h_100 := hs
          replace ex_74 := ex_74.trans (hs.a (gqls.S hM) rfl _).1.symm
          replace ex_75 := ex_75.trans (hs.a (gqag.S hM) rfl _).1.symm
          replace ex_76 := ex_76.trans (hs.a (gqdy.S hM) rfl _).1.symm
          replace ex_96 := ex_96.trans (hs.a (gqls.S hM) rfl _).1.symm
          replace ex_97 := ex_97.trans (hs.a (gqag.S hM) rfl _).1.symm
          replace ex_98 := ex_98.trans (hs.a (gqdy.S hM) rfl _).1.symm
          replace hM := hM.tr (hs.mono ?o346)
          case o346 => decide
          refine hx_reti hx hb hr hlk hW ⟨⟨by unfold hx_fr; rw [← hc3, ← hc4, ← hc5, ← hc6]; exact hr_103.1, ?o347, ?o348⟩, hT, hM⟩ dX10_far_133
          case o347 => omega
          case o348 => omega
        · skip
          refine lv_bipush (v := 50) hx hb dX10_far_100 ?o349 ?_
          case o349 => decide
          refine lv_goto (tgt := 121) hx hb dX10_far_102 ?o350 ?_
          case o350 => decide
          refine lv_istore (lv' := [(6, .int (50 : Int32)), (5, .int (50 : Int32)), (4, .int x_76), (3, .int (50 : Int32)), (0, .ref x), (1, .int i1), (2, .int i2)]) hx hb dX10_far_121 hl ?o351 rfl (fun ls hl => ?_)
          case o351 => decide
          have hc3 : (50 : Int32).toInt = hx_cx lf agf dxf n0.toInt i1.toInt := ?o352
          case o352 =>
            unfold hx_cx
            rw [if_pos (by omega)]
            decide
          have hc4 : x_76.toInt = hx_cx lf agf dyf n0.toInt i1.toInt := ?o353
          case o353 =>
            unfold hx_cx
            rw [if_neg (by omega)]
            exact congrArg Int32.toInt (ax_76.trans (congrArg (fun z : Int32 => dyf z.toInt.toNat) (ax_75.trans (congrArg (fun z : Int32 => agf z.toInt.toNat) ax_74))))
          have hc5 : (50 : Int32).toInt = hx_cx lf agf dxf n0.toInt i2.toInt := ?o354
          case o354 =>
            unfold hx_cx
            rw [if_pos (by omega)]
            decide
          have hc6 : (50 : Int32).toInt = hx_cx lf agf dyf n0.toInt i2.toInt := ?o355
          case o355 =>
            unfold hx_cx
            rw [if_pos (by omega)]
            decide
          refine lv_iload_n hx hb dX10_far_123 rfl (lv_at hl 3 rfl) ?_
          refine lv_iload hx hb dX10_far_124 (lv_at hl 2 rfl) ?_
          refine lv_iload hx hb dX10_far_126 (lv_at hl 1 rfl) ?_
          refine lv_iload hx hb dX10_far_128 (lv_at hl 0 rfl) ?_
          have zc_50 : (50 : Int32).toInt = 50 := ?o356
          case o356 => decide
          refine hx_goi (hx_runS (As := [.int (50 : Int32), .int x_76, .int (50 : Int32), .int (50 : Int32)]) (rest := []) ⟨hx, hb, hml, hown, hts⟩ hW (t_X10_stepsBetween_2 l dC dI dA L h s.heap.size (50 : Int32) x_76 (50 : Int32) (50 : Int32) hT ⟨?o357, ?o358⟩ ⟨?o359, ?o360⟩ ⟨?o361, ?o362⟩ ⟨?o363, ?o364⟩) (va_cwS 4 hts (hx_gS kw_1728 kw_1726 kw_1727 kw_103) rfl rfl rfl (by decide +kernel) ⟨Nat.le_of_ble_eq_true rfl, Nat.le_of_ble_eq_true rfl⟩) rfl hl.1 rfl (Nat.le_of_ble_eq_true rfl) dX10_far_130 ⟨Nat.le_of_ble_eq_true rfl, Nat.le_of_ble_eq_true rfl⟩) hW (fun r_106 L_104 h_105 H locs p_107 hW => ?_)
          case o357 => omega
          case o358 => omega
          case o359 => omega
          case o360 => omega
          case o361 => omega
          case o362 => omega
          case o363 => omega
          case o364 => omega
          obtain ⟨hr_108, hT, hs⟩ := p_107
          replace hT : hx_T T_tb L_104 h_105 := hT
          replace hs : hx_S T_tb [] L h L_104 h_105 := hs
          replace ex_74 := ex_74.trans (hs.a (gqls.S hM) rfl _).1.symm
          replace ex_75 := ex_75.trans (hs.a (gqag.S hM) rfl _).1.symm
          replace ex_76 := ex_76.trans (hs.a (gqdy.S hM) rfl _).1.symm
          replace hM := hM.tr (hs.mono ?o365)
          case o365 => decide
          refine hx_reti hx hb hr hlk hW ⟨⟨by unfold hx_fr; rw [← hc3, ← hc4, ← hc5, ← hc6]; exact hr_108.1, ?o366, ?o367⟩, hT, hM⟩ dX10_far_133
          case o366 => omega
          case o367 => omega
    · skip
      refine lv_bipush (v := 50) hx hb dX10_far_38 ?o368 ?_
      case o368 => decide
      refine lv_goto (tgt := 59) hx hb dX10_far_40 ?o369 ?_
      case o369 => decide
      refine lv_istore (lv' := [(4, .int (50 : Int32)), (3, .int (50 : Int32)), (0, .ref x), (1, .int i1), (2, .int i2)]) hx hb dX10_far_59 hl ?o370 rfl (fun ls hl => ?_)
      case o370 => decide
      refine lv_iload_n hx hb dX10_far_61 rfl (lv_at hl 4 rfl) ?_
      refine lv_aload_n hx hb dX10_far_62 rfl (lv_at hl 2 rfl) ?_
      refine hk_geti hx hb hts hC_10 hown hW (gx.S hM) tt_10 90 ?o371 rfl kw_1233 ⟨rfl, rfl, rfl⟩ ((hM.o gx trivial rfl).1.trans f_x_90) dX10_far_63 ?_
      case o371 => decide
      refine hb_icmp_ne (zx := i2.toInt) (zy := n0.toInt) (tgt := 74) hx hb rfl rfl dX10_far_66 ?o372 (fun c_109 => ?_) (fun c_109 => ?_)
      case o372 => decide
      · skip
        refine lv_aload_n hx hb dX10_far_74 rfl (lv_at hl 2 rfl) ?_
        refine hk_getr hx hb hts hC_10 hown hW (gx.S hM) tt_10 24 ?o373 rfl kw_1167 ⟨rfl, rfl, rfl⟩ ((hM.o gx trivial rfl).2.trans f_x_24) dX10_far_75 ?_
        case o373 => decide
        refine lv_aload_n hx hb dX10_far_78 rfl (lv_at hl 2 rfl) ?_
        refine hk_getr hx hb hts hC_10 hown hW (gx.S hM) tt_10 38 ?o374 rfl kw_1181 ⟨rfl, rfl, rfl⟩ ((hM.o gx trivial rfl).2.trans f_x_38) dX10_far_79 ?_
        case o374 => decide
        refine lv_aload_n hx hb dX10_far_82 rfl (lv_at hl 2 rfl) ?_
        refine hk_getr hx hb hts hC_10 hown hW (gx.S hM) tt_10 91 ?o375 rfl kw_1234 ⟨rfl, rfl, rfl⟩ ((hM.o gx trivial rfl).2.trans f_x_91) dX10_far_83 ?_
        case o375 => decide
        refine lv_iload_n hx hb dX10_far_86 rfl (lv_at hl 4 rfl) ?_
        refine hx_iald hx hb hW hT (gqls.S hM) tt_112 rfl ⟨?o376, ?o377⟩ dX10_far_87 (fun x_110 ex_110 lx_110 ux_110 => ?_)
        case o376 => omega
        case o377 => omega
        have ax_110 : x_110 = lf i2.toNatClampNeg := ex_110.trans (congrFun (hx_afS hM gqls rfl af_qls) _)
        refine hx_iald hx hb hW hT (gqag.S hM) tt_73 rfl ⟨?o378, ?o379⟩ dX10_far_88 (fun x_111 ex_111 lx_111 ux_111 => ?_)
        case o378 => omega
        case o379 => omega
        have ax_111 : x_111 = agf x_110.toNatClampNeg := ex_111.trans (congrFun (hx_afS hM gqag rfl af_qag) _)
        refine hx_iald hx hb hW hT (gqdx.S hM) tt_61 rfl ⟨?o380, ?o381⟩ dX10_far_89 (fun x_112 ex_112 lx_112 ux_112 => ?_)
        case o380 => omega
        case o381 => omega
        have ax_112 : x_112 = dxf x_111.toNatClampNeg := ex_112.trans (congrFun (hx_afS hM gqdx rfl af_qdx) _)
        refine lv_istore (lv' := [(5, .int x_112), (4, .int (50 : Int32)), (3, .int (50 : Int32)), (0, .ref x), (1, .int i1), (2, .int i2)]) hx hb dX10_far_90 hl ?o382 rfl (fun ls hl => ?_)
        case o382 => decide
        refine lv_iload_n hx hb dX10_far_92 rfl (lv_at hl 5 rfl) ?_
        refine lv_aload_n hx hb dX10_far_93 rfl (lv_at hl 3 rfl) ?_
        refine hk_geti hx hb hts hC_10 hown hW (gx.S hM) tt_10 90 ?o383 rfl kw_1233 ⟨rfl, rfl, rfl⟩ ((hM.o gx trivial rfl).1.trans f_x_90) dX10_far_94 ?_
        case o383 => decide
        refine hb_icmp_ne (zx := i2.toInt) (zy := n0.toInt) (tgt := 105) hx hb rfl rfl dX10_far_97 ?o384 (fun c_113 => ?_) (fun c_113 => ?_)
        case o384 => decide
        · skip
          refine lv_aload_n hx hb dX10_far_105 rfl (lv_at hl 3 rfl) ?_
          refine hk_getr hx hb hts hC_10 hown hW (gx.S hM) tt_10 25 ?o385 rfl kw_1168 ⟨rfl, rfl, rfl⟩ ((hM.o gx trivial rfl).2.trans f_x_25) dX10_far_106 ?_
          case o385 => decide
          refine lv_aload_n hx hb dX10_far_109 rfl (lv_at hl 3 rfl) ?_
          refine hk_getr hx hb hts hC_10 hown hW (gx.S hM) tt_10 38 ?o386 rfl kw_1181 ⟨rfl, rfl, rfl⟩ ((hM.o gx trivial rfl).2.trans f_x_38) dX10_far_110 ?_
          case o386 => decide
          refine lv_aload_n hx hb dX10_far_113 rfl (lv_at hl 3 rfl) ?_
          refine hk_getr hx hb hts hC_10 hown hW (gx.S hM) tt_10 91 ?o387 rfl kw_1234 ⟨rfl, rfl, rfl⟩ ((hM.o gx trivial rfl).2.trans f_x_91) dX10_far_114 ?_
          case o387 => decide
          refine lv_iload_n hx hb dX10_far_117 rfl (lv_at hl 5 rfl) ?_
          refine hx_iald hx hb hW hT (gqls.S hM) tt_112 rfl ⟨?o388, ?o389⟩ dX10_far_118 (fun x_114 ex_114 lx_114 ux_114 => ?_)
          case o388 => omega
          case o389 => omega
          have ax_114 : x_114 = lf i2.toNatClampNeg := ex_114.trans (congrFun (hx_afS hM gqls rfl af_qls) _)
          obtain rfl : x_110 = x_114 := ex_110.trans ex_114.symm
          refine hx_iald hx hb hW hT (gqag.S hM) tt_73 rfl ⟨?o390, ?o391⟩ dX10_far_119 (fun x_115 ex_115 lx_115 ux_115 => ?_)
          case o390 => omega
          case o391 => omega
          have ax_115 : x_115 = agf x_110.toNatClampNeg := ex_115.trans (congrFun (hx_afS hM gqag rfl af_qag) _)
          obtain rfl : x_111 = x_115 := ex_111.trans ex_115.symm
          refine hx_iald hx hb hW hT (gqdy.S hM) tt_62 rfl ⟨?o392, ?o393⟩ dX10_far_120 (fun x_116 ex_116 lx_116 ux_116 => ?_)
          case o392 => omega
          case o393 => omega
          have ax_116 : x_116 = dyf x_111.toNatClampNeg := ex_116.trans (congrFun (hx_afS hM gqdy rfl af_qdy) _)
          refine lv_istore (lv' := [(6, .int x_116), (5, .int x_112), (4, .int (50 : Int32)), (3, .int (50 : Int32)), (0, .ref x), (1, .int i1), (2, .int i2)]) hx hb dX10_far_121 hl ?o394 rfl (fun ls hl => ?_)
          case o394 => decide
          have hc3 : (50 : Int32).toInt = hx_cx lf agf dxf n0.toInt i1.toInt := ?o395
          case o395 =>
            unfold hx_cx
            rw [if_pos (by omega)]
            decide
          have hc4 : (50 : Int32).toInt = hx_cx lf agf dyf n0.toInt i1.toInt := ?o396
          case o396 =>
            unfold hx_cx
            rw [if_pos (by omega)]
            decide
          have hc5 : x_112.toInt = hx_cx lf agf dxf n0.toInt i2.toInt := ?o397
          case o397 =>
            unfold hx_cx
            rw [if_neg (by omega)]
            exact congrArg Int32.toInt (ax_112.trans (congrArg (fun z : Int32 => dxf z.toInt.toNat) (ax_111.trans (congrArg (fun z : Int32 => agf z.toInt.toNat) ax_110))))
          have hc6 : x_116.toInt = hx_cx lf agf dyf n0.toInt i2.toInt := ?o398
          case o398 =>
            unfold hx_cx
            rw [if_neg (by omega)]
            exact congrArg Int32.toInt (ax_116.trans (congrArg (fun z : Int32 => dyf z.toInt.toNat) (ax_111.trans (congrArg (fun z : Int32 => agf z.toInt.toNat) ax_110))))
          refine lv_iload_n hx hb dX10_far_123 rfl (lv_at hl 3 rfl) ?_
          refine lv_iload hx hb dX10_far_124 (lv_at hl 2 rfl) ?_
          refine lv_iload hx hb dX10_far_126 (lv_at hl 1 rfl) ?_
          refine lv_iload hx hb dX10_far_128 (lv_at hl 0 rfl) ?_
          have zc_50 : (50 : Int32).toInt = 50 := ?o399
          case o399 => decide
          refine hx_goi (hx_runS (As := [.int (50 : Int32), .int (50 : Int32), .int x_112, .int x_116]) (rest := []) ⟨hx, hb, hml, hown, hts⟩ hW (t_X10_stepsBetween_2 l dC dI dA L h s.heap.size (50 : Int32) (50 : Int32) x_112 x_116 hT ⟨?o400, ?o401⟩ ⟨?o402, ?o403⟩ ⟨?o404, ?o405⟩ ⟨?o406, ?o407⟩) (va_cwS 4 hts (hx_gS kw_1728 kw_1726 kw_1727 kw_103) rfl rfl rfl (by decide +kernel) ⟨Nat.le_of_ble_eq_true rfl, Nat.le_of_ble_eq_true rfl⟩) rfl hl.1 rfl (Nat.le_of_ble_eq_true rfl) dX10_far_130 ⟨Nat.le_of_ble_eq_true rfl, Nat.le_of_ble_eq_true rfl⟩) hW (fun r_119 L_117 h_118 H locs p_120 hW => ?_)
          case o400 => omega
          case o401 => omega
          case o402 => omega
          case o403 => omega
          case o404 => omega
          case o405 => omega
          case o406 => omega
          case o407 => omega
          obtain ⟨hr_121, hT, hs⟩ := p_120
          replace hT : hx_T T_tb L_117 h_118 := hT
          replace hs : hx_S T_tb [] L h L_117 h_118 := hs
          replace ex_110 := ex_110.trans (hs.a (gqls.S hM) rfl _).1.symm
          replace ex_111 := ex_111.trans (hs.a (gqag.S hM) rfl _).1.symm
          replace ex_112 := ex_112.trans (hs.a (gqdx.S hM) rfl _).1.symm
          replace ex_116 := ex_116.trans (hs.a (gqdy.S hM) rfl _).1.symm
          replace hM := hM.tr (hs.mono ?o408)
          case o408 => decide
          refine hx_reti hx hb hr hlk hW ⟨⟨by unfold hx_fr; rw [← hc3, ← hc4, ← hc5, ← hc6]; exact hr_121.1, ?o409, ?o410⟩, hT, hM⟩ dX10_far_133
          case o409 => omega
          case o410 => omega
        · skip
          refine lv_bipush (v := 50) hx hb dX10_far_100 ?o411 ?_
          case o411 => decide
          refine lv_goto (tgt := 121) hx hb dX10_far_102 ?o412 ?_
          case o412 => decide
          refine lv_istore (lv' := [(6, .int (50 : Int32)), (5, .int x_112), (4, .int (50 : Int32)), (3, .int (50 : Int32)), (0, .ref x), (1, .int i1), (2, .int i2)]) hx hb dX10_far_121 hl ?o413 rfl (fun ls hl => ?_)
          case o413 => decide
          have hc3 : (50 : Int32).toInt = hx_cx lf agf dxf n0.toInt i1.toInt := ?o414
          case o414 =>
            unfold hx_cx
            rw [if_pos (by omega)]
            decide
          have hc4 : (50 : Int32).toInt = hx_cx lf agf dyf n0.toInt i1.toInt := ?o415
          case o415 =>
            unfold hx_cx
            rw [if_pos (by omega)]
            decide
          have hc5 : x_112.toInt = hx_cx lf agf dxf n0.toInt i2.toInt := ?o416
          case o416 =>
            unfold hx_cx
            rw [if_neg (by omega)]
            exact congrArg Int32.toInt (ax_112.trans (congrArg (fun z : Int32 => dxf z.toInt.toNat) (ax_111.trans (congrArg (fun z : Int32 => agf z.toInt.toNat) ax_110))))
          have hc6 : (50 : Int32).toInt = hx_cx lf agf dyf n0.toInt i2.toInt := ?o417
          case o417 =>
            unfold hx_cx
            rw [if_pos (by omega)]
            decide
          refine lv_iload_n hx hb dX10_far_123 rfl (lv_at hl 3 rfl) ?_
          refine lv_iload hx hb dX10_far_124 (lv_at hl 2 rfl) ?_
          refine lv_iload hx hb dX10_far_126 (lv_at hl 1 rfl) ?_
          refine lv_iload hx hb dX10_far_128 (lv_at hl 0 rfl) ?_
          have zc_50 : (50 : Int32).toInt = 50 := ?o418
          case o418 => decide
          refine hx_goi (hx_runS (As := [.int (50 : Int32), .int (50 : Int32), .int x_112, .int (50 : Int32)]) (rest := []) ⟨hx, hb, hml, hown, hts⟩ hW (t_X10_stepsBetween_2 l dC dI dA L h s.heap.size (50 : Int32) (50 : Int32) x_112 (50 : Int32) hT ⟨?o419, ?o420⟩ ⟨?o421, ?o422⟩ ⟨?o423, ?o424⟩ ⟨?o425, ?o426⟩) (va_cwS 4 hts (hx_gS kw_1728 kw_1726 kw_1727 kw_103) rfl rfl rfl (by decide +kernel) ⟨Nat.le_of_ble_eq_true rfl, Nat.le_of_ble_eq_true rfl⟩) rfl hl.1 rfl (Nat.le_of_ble_eq_true rfl) dX10_far_130 ⟨Nat.le_of_ble_eq_true rfl, Nat.le_of_ble_eq_true rfl⟩) hW (fun r_124 L_122 h_123 H locs p_125 hW => ?_)
          case o419 => omega
          case o420 => omega
          case o421 => omega
          case o422 => omega
          case o423 => omega
          case o424 => omega
          case o425 => omega
          case o426 => omega
          obtain ⟨hr_126, hT, hs⟩ := p_125
          replace hT : hx_T T_tb L_122 h_123 := hT
          replace hs : hx_S T_tb [] L h L_122 h_123 := hs
          replace ex_110 := ex_110.trans (hs.a (gqls.S hM) rfl _).1.symm
          replace ex_111 := ex_111.trans (hs.a (gqag.S hM) rfl _).1.symm
          replace ex_112 := ex_112.trans (hs.a (gqdx.S hM) rfl _).1.symm
          replace hM := hM.tr (hs.mono ?o427)
          case o427 => decide
          refine hx_reti hx hb hr hlk hW ⟨⟨by unfold hx_fr; rw [← hc3, ← hc4, ← hc5, ← hc6]; exact hr_126.1, ?o428, ?o429⟩, hT, hM⟩ dX10_far_133
          case o428 => omega
          case o429 => omega
      · skip
        refine lv_bipush (v := 50) hx hb dX10_far_69 ?o430 ?_
        case o430 => decide
        refine lv_goto (tgt := 90) hx hb dX10_far_71 ?o431 ?_
        case o431 => decide
        refine lv_istore (lv' := [(5, .int (50 : Int32)), (4, .int (50 : Int32)), (3, .int (50 : Int32)), (0, .ref x), (1, .int i1), (2, .int i2)]) hx hb dX10_far_90 hl ?o432 rfl (fun ls hl => ?_)
        case o432 => decide
        refine lv_iload_n hx hb dX10_far_92 rfl (lv_at hl 5 rfl) ?_
        refine lv_aload_n hx hb dX10_far_93 rfl (lv_at hl 3 rfl) ?_
        refine hk_geti hx hb hts hC_10 hown hW (gx.S hM) tt_10 90 ?o433 rfl kw_1233 ⟨rfl, rfl, rfl⟩ ((hM.o gx trivial rfl).1.trans f_x_90) dX10_far_94 ?_
        case o433 => decide
        refine hb_icmp_ne (zx := i2.toInt) (zy := n0.toInt) (tgt := 105) hx hb rfl rfl dX10_far_97 ?o434 (fun c_127 => ?_) (fun c_127 => ?_)
        case o434 => decide
        · skip
          refine lv_aload_n hx hb dX10_far_105 rfl (lv_at hl 3 rfl) ?_
          refine hk_getr hx hb hts hC_10 hown hW (gx.S hM) tt_10 25 ?o435 rfl kw_1168 ⟨rfl, rfl, rfl⟩ ((hM.o gx trivial rfl).2.trans f_x_25) dX10_far_106 ?_
          case o435 => decide
          refine lv_aload_n hx hb dX10_far_109 rfl (lv_at hl 3 rfl) ?_
          refine hk_getr hx hb hts hC_10 hown hW (gx.S hM) tt_10 38 ?o436 rfl kw_1181 ⟨rfl, rfl, rfl⟩ ((hM.o gx trivial rfl).2.trans f_x_38) dX10_far_110 ?_
          case o436 => decide
          refine lv_aload_n hx hb dX10_far_113 rfl (lv_at hl 3 rfl) ?_
          refine hk_getr hx hb hts hC_10 hown hW (gx.S hM) tt_10 91 ?o437 rfl kw_1234 ⟨rfl, rfl, rfl⟩ ((hM.o gx trivial rfl).2.trans f_x_91) dX10_far_114 ?_
          case o437 => decide
          refine lv_iload_n hx hb dX10_far_117 rfl (lv_at hl 5 rfl) ?_
          refine hx_iald hx hb hW hT (gqls.S hM) tt_112 rfl ⟨?o438, ?o439⟩ dX10_far_118 (fun x_128 ex_128 lx_128 ux_128 => ?_)
          case o438 => omega
          case o439 => omega
          have ax_128 : x_128 = lf i2.toNatClampNeg := ex_128.trans (congrFun (hx_afS hM gqls rfl af_qls) _)
          refine hx_iald hx hb hW hT (gqag.S hM) tt_73 rfl ⟨?o440, ?o441⟩ dX10_far_119 (fun x_129 ex_129 lx_129 ux_129 => ?_)
          case o440 => omega
          case o441 => omega
          have ax_129 : x_129 = agf x_128.toNatClampNeg := ex_129.trans (congrFun (hx_afS hM gqag rfl af_qag) _)
          refine hx_iald hx hb hW hT (gqdy.S hM) tt_62 rfl ⟨?o442, ?o443⟩ dX10_far_120 (fun x_130 ex_130 lx_130 ux_130 => ?_)
          case o442 => omega
          case o443 => omega
          have ax_130 : x_130 = dyf x_129.toNatClampNeg := ex_130.trans (congrFun (hx_afS hM gqdy rfl af_qdy) _)
          refine lv_istore (lv' := [(6, .int x_130), (5, .int (50 : Int32)), (4, .int (50 : Int32)), (3, .int (50 : Int32)), (0, .ref x), (1, .int i1), (2, .int i2)]) hx hb dX10_far_121 hl ?o444 rfl (fun ls hl => ?_)
          case o444 => decide
          have hc3 : (50 : Int32).toInt = hx_cx lf agf dxf n0.toInt i1.toInt := ?o445
          case o445 =>
            unfold hx_cx
            rw [if_pos (by omega)]
            decide
          have hc4 : (50 : Int32).toInt = hx_cx lf agf dyf n0.toInt i1.toInt := ?o446
          case o446 =>
            unfold hx_cx
            rw [if_pos (by omega)]
            decide
          have hc5 : (50 : Int32).toInt = hx_cx lf agf dxf n0.toInt i2.toInt := ?o447
          case o447 =>
            unfold hx_cx
            rw [if_pos (by omega)]
            decide
          have hc6 : x_130.toInt = hx_cx lf agf dyf n0.toInt i2.toInt := ?o448
          case o448 =>
            unfold hx_cx
            rw [if_neg (by omega)]
            exact congrArg Int32.toInt (ax_130.trans (congrArg (fun z : Int32 => dyf z.toInt.toNat) (ax_129.trans (congrArg (fun z : Int32 => agf z.toInt.toNat) ax_128))))
          refine lv_iload_n hx hb dX10_far_123 rfl (lv_at hl 3 rfl) ?_
          refine lv_iload hx hb dX10_far_124 (lv_at hl 2 rfl) ?_
          refine lv_iload hx hb dX10_far_126 (lv_at hl 1 rfl) ?_
          refine lv_iload hx hb dX10_far_128 (lv_at hl 0 rfl) ?_
          have zc_50 : (50 : Int32).toInt = 50 := ?o449
          case o449 => decide
          refine hx_goi (hx_runS (As := [.int (50 : Int32), .int (50 : Int32), .int (50 : Int32), .int x_130]) (rest := []) ⟨hx, hb, hml, hown, hts⟩ hW (t_X10_stepsBetween_2 l dC dI dA L h s.heap.size (50 : Int32) (50 : Int32) (50 : Int32) x_130 hT ⟨?o450, ?o451⟩ ⟨?o452, ?o453⟩ ⟨?o454, ?o455⟩ ⟨?o456, ?o457⟩) (va_cwS 4 hts (hx_gS kw_1728 kw_1726 kw_1727 kw_103) rfl rfl rfl (by decide +kernel) ⟨Nat.le_of_ble_eq_true rfl, Nat.le_of_ble_eq_true rfl⟩) rfl hl.1 rfl (Nat.le_of_ble_eq_true rfl) dX10_far_130 ⟨Nat.le_of_ble_eq_true rfl, Nat.le_of_ble_eq_true rfl⟩) hW (fun r_133 L_131 h_132 H locs p_134 hW => ?_)
          case o450 => omega
          case o451 => omega
          case o452 => omega
          case o453 => omega
          case o454 => omega
          case o455 => omega
          case o456 => omega
          case o457 => omega
          obtain ⟨hr_135, hT, hs⟩ := p_134
          replace hT : hx_T T_tb L_131 h_132 := hT
          replace hs : hx_S T_tb [] L h L_131 h_132 := hs
          replace ex_128 := ex_128.trans (hs.a (gqls.S hM) rfl _).1.symm
          replace ex_129 := ex_129.trans (hs.a (gqag.S hM) rfl _).1.symm
          replace ex_130 := ex_130.trans (hs.a (gqdy.S hM) rfl _).1.symm
          replace hM := hM.tr (hs.mono ?o458)
          case o458 => decide
          refine hx_reti hx hb hr hlk hW ⟨⟨by unfold hx_fr; rw [← hc3, ← hc4, ← hc5, ← hc6]; exact hr_135.1, ?o459, ?o460⟩, hT, hM⟩ dX10_far_133
          case o459 => omega
          case o460 => omega
        · skip
          refine lv_bipush (v := 50) hx hb dX10_far_100 ?o461 ?_
          case o461 => decide
          refine lv_goto (tgt := 121) hx hb dX10_far_102 ?o462 ?_
          case o462 => decide
          refine lv_istore (lv' := [(6, .int (50 : Int32)), (5, .int (50 : Int32)), (4, .int (50 : Int32)), (3, .int (50 : Int32)), (0, .ref x), (1, .int i1), (2, .int i2)]) hx hb dX10_far_121 hl ?o463 rfl (fun ls hl => ?_)
          case o463 => decide
          have hc3 : (50 : Int32).toInt = hx_cx lf agf dxf n0.toInt i1.toInt := ?o464
          case o464 =>
            unfold hx_cx
            rw [if_pos (by omega)]
            decide
          have hc4 : (50 : Int32).toInt = hx_cx lf agf dyf n0.toInt i1.toInt := ?o465
          case o465 =>
            unfold hx_cx
            rw [if_pos (by omega)]
            decide
          have hc5 : (50 : Int32).toInt = hx_cx lf agf dxf n0.toInt i2.toInt := ?o466
          case o466 =>
            unfold hx_cx
            rw [if_pos (by omega)]
            decide
          have hc6 : (50 : Int32).toInt = hx_cx lf agf dyf n0.toInt i2.toInt := ?o467
          case o467 =>
            unfold hx_cx
            rw [if_pos (by omega)]
            decide
          refine lv_iload_n hx hb dX10_far_123 rfl (lv_at hl 3 rfl) ?_
          refine lv_iload hx hb dX10_far_124 (lv_at hl 2 rfl) ?_
          refine lv_iload hx hb dX10_far_126 (lv_at hl 1 rfl) ?_
          refine lv_iload hx hb dX10_far_128 (lv_at hl 0 rfl) ?_
          have zc_50 : (50 : Int32).toInt = 50 := ?o468
          case o468 => decide
          refine hx_goi (hx_runS (As := [.int (50 : Int32), .int (50 : Int32), .int (50 : Int32), .int (50 : Int32)]) (rest := []) ⟨hx, hb, hml, hown, hts⟩ hW (t_X10_stepsBetween_2 l dC dI dA L h s.heap.size (50 : Int32) (50 : Int32) (50 : Int32) (50 : Int32) hT ⟨?o469, ?o470⟩ ⟨?o471, ?o472⟩ ⟨?o473, ?o474⟩ ⟨?o475, ?o476⟩) (va_cwS 4 hts (hx_gS kw_1728 kw_1726 kw_1727 kw_103) rfl rfl rfl (by decide +kernel) ⟨Nat.le_of_ble_eq_true rfl, Nat.le_of_ble_eq_true rfl⟩) rfl hl.1 rfl (Nat.le_of_ble_eq_true rfl) dX10_far_130 ⟨Nat.le_of_ble_eq_true rfl, Nat.le_of_ble_eq_true rfl⟩) hW (fun r_138 L_136 h_137 H locs p_139 hW => ?_)
          case o469 => omega
          case o470 => omega
          case o471 => omega
          case o472 => omega
          case o473 => omega
          case o474 => omega
          case o475 => omega
          case o476 => omega
          obtain ⟨hr_140, hT, hs⟩ := p_139
          replace hT : hx_T T_tb L_136 h_137 := hT
          replace hs : hx_S T_tb [] L h L_136 h_137 := hs
          replace hM := hM.tr (hs.mono ?o477)
          case o477 => decide
          refine hx_reti hx hb hr hlk hW ⟨⟨by unfold hx_fr; rw [← hc3, ← hc4, ← hc5, ← hc6]; exact hr_140.1, ?o478, ?o479⟩, hT, hM⟩ dX10_far_133
          case o478 => omega
          case o479 => omega


set_option maxHeartbeats 4000000 in
set_option maxRecDepth 100000 in
theorem t_X10_lesser_2 (l : Launch) (dC : Nat → ClassId) (dI : Nat → Nat → Nat) (dA : Nat → ClassId) (L : List Nat) (h : hx_h) (sz : Nat) (i1 : Int32) (i2 : Int32) (hT : hx_T T_tb L h)   : Met l yX10_lesser (Cond.code yX10_lesser cX10_lesser 2 (some .int) :: hx_all) ({ frames := 0, cells := 0, slots := 0, locals := 0 }) (va_Pc [.int i1, .int i2] (hx_B T_tb (P_ty dA) (dC, dI) vwCl L h sz)) (va_Qi (fun (r : Int32) (u : List Nat × hx_h) => ((r = i1 ∧ i1.toInt < i2.toInt) ∨ (r = i2 ∧ i2.toInt ≤ i1.toInt)) ∧ hx_T T_tb u.1 u.2 ∧ hx_S T_tb [] L h u.1 u.2) (hx_E T_tb (P_ty dA) (dC, dI) vwCl (hx_A L sz)) (hx_A L sz)) 0 0 (hx_A L sz) := by
  refine hx_met (lv := [(0, .int i1), (1, .int i2)]) (by decide +kernel) rfl (Nat.le_of_ble_eq_true rfl) rfl ?_
  intro p e s m below meth c hx hb hml hr hlk hts0 hown hin hsz hW ls hl
  have hts : ∀ w ∈ hx_all, w.before _ s = true := fun w hw => hts0 w (List.mem_cons_of_mem _ hw)
  have hown : s.vm.findClass "SmallCourtModel" = some m.cls := hown
  have hM : hx_S T_tb [] L h L h := hx_S.rf
  refine lv_iload_n hx hb dX10_lesser_0 rfl (lv_at hl 0 rfl) ?_
  refine lv_iload_n hx hb dX10_lesser_1 rfl (lv_at hl 1 rfl) ?_
  refine hb_icmp_ge (zx := i1.toInt) (zy := i2.toInt) (tgt := 9) hx hb rfl rfl dX10_lesser_2 ?o0 (fun c_1 => ?_) (fun c_1 => ?_)
  case o0 => decide
  · skip
    refine lv_iload_n hx hb dX10_lesser_9 rfl (lv_at hl 1 rfl) ?_
    exact hx_reti hx hb hr hlk hW ⟨(by first | exact Or.inl ⟨rfl, by omega⟩ | exact Or.inr ⟨rfl, by omega⟩), hT, hM⟩ dX10_lesser_10
  · skip
    refine lv_iload_n hx hb dX10_lesser_5 rfl (lv_at hl 0 rfl) ?_
    refine lv_goto (tgt := 10) hx hb dX10_lesser_6 ?o1 ?_
    case o1 => decide
    exact hx_reti hx hb hr hlk hW ⟨(by first | exact Or.inl ⟨rfl, by omega⟩ | exact Or.inr ⟨rfl, by omega⟩), hT, hM⟩ dX10_lesser_10

def wNX10_walk : Nat := 102546202219902619730257780274166191624176720872766602188580526406409924196800049726957281546109838690543175914228800666361604639561819411857755624356104432326118832071154168564186619496323673965665428097894271478707888184530849131298337427585561346060625585340463374783529077972640924431472074487619166577877451210867011163719396019990248194827089370316831760691174049153158275563317956433203913300056383588150710866430877468286311993369079774411439501133901964555268408481204162499687808497540318104446182003852140806866878165001014158921746548114654679889251296212229361910360718029235854727585000374699664969655143073011578153051892228
theorem wX10_walk_c : hz_cd cX10_walk wNX10_walk 265 := ⟨by decide +kernel, by decide +kernel⟩
theorem dX10_walk_0 : decode cX10_walk 0 = .ok (.iconst 1, 1) := dw_4 wX10_walk_c rfl
theorem dX10_walk_1 : decode cX10_walk 1 = .ok (.aload_n 0, 1) := dw_42 wX10_walk_c rfl
theorem dX10_walk_2 : decode cX10_walk 2 = .ok (.getfield 468, 3) := dw_180 wX10_walk_c 1 212 rfl rfl
theorem dX10_walk_5 : decode cX10_walk 5 = .ok (.ishl, 1) := dw_120 wX10_walk_c rfl
theorem dX10_walk_6 : decode cX10_walk 6 = .ok (.istore_n 1, 1) := dw_60 wX10_walk_c rfl
theorem dX10_walk_7 : decode cX10_walk 7 = .ok (.iconst 0, 1) := dw_3 wX10_walk_c rfl
theorem dX10_walk_8 : decode cX10_walk 8 = .ok (.istore_n 2, 1) := dw_61 wX10_walk_c rfl
theorem dX10_walk_9 : decode cX10_walk 9 = .ok (.iload_n 2, 1) := dw_28 wX10_walk_c rfl
theorem dX10_walk_10 : decode cX10_walk 10 = .ok (.iload_n 1, 1) := dw_27 wX10_walk_c rfl
theorem dX10_walk_11 : decode cX10_walk 11 = .ok (.if_icmp .ge 119, 3) := dw_162 wX10_walk_c 0 119 rfl rfl rfl
theorem dX10_walk_14 : decode cX10_walk 14 = .ok (.iconst 0, 1) := dw_3 wX10_walk_c rfl
theorem dX10_walk_15 : decode cX10_walk 15 = .ok (.istore_n 3, 1) := dw_62 wX10_walk_c rfl
theorem dX10_walk_16 : decode cX10_walk 16 = .ok (.iload_n 3, 1) := dw_29 wX10_walk_c rfl
theorem dX10_walk_17 : decode cX10_walk 17 = .ok (.aload_n 0, 1) := dw_42 wX10_walk_c rfl
theorem dX10_walk_18 : decode cX10_walk 18 = .ok (.getfield 468, 3) := dw_180 wX10_walk_c 1 212 rfl rfl
theorem dX10_walk_21 : decode cX10_walk 21 = .ok (.if_icmp .gt 103, 3) := dw_163 wX10_walk_c 0 103 rfl rfl rfl
theorem dX10_walk_24 : decode cX10_walk 24 = .ok (.iload_n 2, 1) := dw_28 wX10_walk_c rfl
theorem dX10_walk_25 : decode cX10_walk 25 = .ok (.ifCond .ne 15, 3) := dw_154 wX10_walk_c 0 15 rfl rfl rfl
theorem dX10_walk_28 : decode cX10_walk 28 = .ok (.aload_n 0, 1) := dw_42 wX10_walk_c rfl
theorem dX10_walk_29 : decode cX10_walk 29 = .ok (.iload_n 3, 1) := dw_29 wX10_walk_c rfl
theorem dX10_walk_30 : decode cX10_walk 30 = .ok (.aload_n 0, 1) := dw_42 wX10_walk_c rfl
theorem dX10_walk_31 : decode cX10_walk 31 = .ok (.getfield 468, 3) := dw_180 wX10_walk_c 1 212 rfl rfl
theorem dX10_walk_34 : decode cX10_walk 34 = .ok (.invokevirtual 475, 3) := dw_182 wX10_walk_c 1 219 rfl rfl
theorem dX10_walk_37 : decode cX10_walk 37 = .ok (.goto 6, 3) := dw_167 wX10_walk_c 0 6 rfl rfl rfl
theorem dX10_walk_40 : decode cX10_walk 40 = .ok (.ldc_w 431, 3) := dw_19 wX10_walk_c 1 175 rfl rfl
theorem dX10_walk_43 : decode cX10_walk 43 = .ok (.istore 4, 2) := dw_54 wX10_walk_c 4 rfl
theorem dX10_walk_45 : decode cX10_walk 45 = .ok (.iconst 0, 1) := dw_3 wX10_walk_c rfl
theorem dX10_walk_46 : decode cX10_walk 46 = .ok (.istore 5, 2) := dw_54 wX10_walk_c 5 rfl
theorem dX10_walk_48 : decode cX10_walk 48 = .ok (.iload 5, 2) := dw_21 wX10_walk_c 5 rfl
theorem dX10_walk_50 : decode cX10_walk 50 = .ok (.aload_n 0, 1) := dw_42 wX10_walk_c rfl
theorem dX10_walk_51 : decode cX10_walk 51 = .ok (.getfield 468, 3) := dw_180 wX10_walk_c 1 212 rfl rfl
theorem dX10_walk_54 : decode cX10_walk 54 = .ok (.if_icmp .ge 51, 3) := dw_162 wX10_walk_c 0 51 rfl rfl rfl
theorem dX10_walk_57 : decode cX10_walk 57 = .ok (.iload_n 2, 1) := dw_28 wX10_walk_c rfl
theorem dX10_walk_58 : decode cX10_walk 58 = .ok (.iload 5, 2) := dw_21 wX10_walk_c 5 rfl
theorem dX10_walk_60 : decode cX10_walk 60 = .ok (.ishr, 1) := dw_122 wX10_walk_c rfl
theorem dX10_walk_61 : decode cX10_walk 61 = .ok (.iconst 1, 1) := dw_4 wX10_walk_c rfl
theorem dX10_walk_62 : decode cX10_walk 62 = .ok (.iand, 1) := dw_126 wX10_walk_c rfl
theorem dX10_walk_63 : decode cX10_walk 63 = .ok (.iconst 1, 1) := dw_4 wX10_walk_c rfl
theorem dX10_walk_64 : decode cX10_walk 64 = .ok (.if_icmp .ne 35, 3) := dw_160 wX10_walk_c 0 35 rfl rfl rfl
theorem dX10_walk_67 : decode cX10_walk 67 = .ok (.iload 4, 2) := dw_21 wX10_walk_c 4 rfl
theorem dX10_walk_69 : decode cX10_walk 69 = .ok (.aload_n 0, 1) := dw_42 wX10_walk_c rfl
theorem dX10_walk_70 : decode cX10_walk 70 = .ok (.iload_n 3, 1) := dw_29 wX10_walk_c rfl
theorem dX10_walk_71 : decode cX10_walk 71 = .ok (.iload 5, 2) := dw_21 wX10_walk_c 5 rfl
theorem dX10_walk_73 : decode cX10_walk 73 = .ok (.invokevirtual 475, 3) := dw_182 wX10_walk_c 1 219 rfl rfl
theorem dX10_walk_76 : decode cX10_walk 76 = .ok (.aload_n 0, 1) := dw_42 wX10_walk_c rfl
theorem dX10_walk_77 : decode cX10_walk 77 = .ok (.getfield 207, 3) := dw_180 wX10_walk_c 0 207 rfl rfl
theorem dX10_walk_80 : decode cX10_walk 80 = .ok (.bipush 9, 2) := dw_16 wX10_walk_c 9 rfl rfl rfl
theorem dX10_walk_82 : decode cX10_walk 82 = .ok (.iload_n 2, 1) := dw_28 wX10_walk_c rfl
theorem dX10_walk_83 : decode cX10_walk 83 = .ok (.iconst 1, 1) := dw_4 wX10_walk_c rfl
theorem dX10_walk_84 : decode cX10_walk 84 = .ok (.iload 5, 2) := dw_21 wX10_walk_c 5 rfl
theorem dX10_walk_86 : decode cX10_walk 86 = .ok (.ishl, 1) := dw_120 wX10_walk_c rfl
theorem dX10_walk_87 : decode cX10_walk 87 = .ok (.ixor, 1) := dw_130 wX10_walk_c rfl
theorem dX10_walk_88 : decode cX10_walk 88 = .ok (.imul, 1) := dw_104 wX10_walk_c rfl
theorem dX10_walk_89 : decode cX10_walk 89 = .ok (.iload 5, 2) := dw_21 wX10_walk_c 5 rfl
theorem dX10_walk_91 : decode cX10_walk 91 = .ok (.iadd, 1) := dw_96 wX10_walk_c rfl
theorem dX10_walk_92 : decode cX10_walk 92 = .ok (.iaload, 1) := dw_46 wX10_walk_c rfl
theorem dX10_walk_93 : decode cX10_walk 93 = .ok (.iadd, 1) := dw_96 wX10_walk_c rfl
theorem dX10_walk_94 : decode cX10_walk 94 = .ok (.invokestatic 448, 3) := dw_184 wX10_walk_c 1 192 rfl rfl
theorem dX10_walk_97 : decode cX10_walk 97 = .ok (.istore 4, 2) := dw_54 wX10_walk_c 4 rfl
theorem dX10_walk_99 : decode cX10_walk 99 = .ok (.iinc 5 1, 3) := dw_132 wX10_walk_c 5 1 rfl rfl rfl
theorem dX10_walk_102 : decode cX10_walk 102 = .ok (.goto (-54), 3) := dn_167 wX10_walk_c 255 202 rfl (by decide)
theorem dX10_walk_105 : decode cX10_walk 105 = .ok (.aload_n 0, 1) := dw_42 wX10_walk_c rfl
theorem dX10_walk_106 : decode cX10_walk 106 = .ok (.getfield 207, 3) := dw_180 wX10_walk_c 0 207 rfl rfl
theorem dX10_walk_109 : decode cX10_walk 109 = .ok (.bipush 9, 2) := dw_16 wX10_walk_c 9 rfl rfl rfl
theorem dX10_walk_111 : decode cX10_walk 111 = .ok (.iload_n 2, 1) := dw_28 wX10_walk_c rfl
theorem dX10_walk_112 : decode cX10_walk 112 = .ok (.imul, 1) := dw_104 wX10_walk_c rfl
theorem dX10_walk_113 : decode cX10_walk 113 = .ok (.iload_n 3, 1) := dw_29 wX10_walk_c rfl
theorem dX10_walk_114 : decode cX10_walk 114 = .ok (.iadd, 1) := dw_96 wX10_walk_c rfl
theorem dX10_walk_115 : decode cX10_walk 115 = .ok (.iload 4, 2) := dw_21 wX10_walk_c 4 rfl
theorem dX10_walk_117 : decode cX10_walk 117 = .ok (.iastore, 1) := dw_79 wX10_walk_c rfl
theorem dX10_walk_118 : decode cX10_walk 118 = .ok (.iinc 3 1, 3) := dw_132 wX10_walk_c 3 1 rfl rfl rfl
theorem dX10_walk_121 : decode cX10_walk 121 = .ok (.goto (-105), 3) := dn_167 wX10_walk_c 255 151 rfl (by decide)
theorem dX10_walk_124 : decode cX10_walk 124 = .ok (.iinc 2 1, 3) := dw_132 wX10_walk_c 2 1 rfl rfl rfl
theorem dX10_walk_127 : decode cX10_walk 127 = .ok (.goto (-118), 3) := dn_167 wX10_walk_c 255 138 rfl (by decide)
theorem dX10_walk_130 : decode cX10_walk 130 = .ok (.iload_n 1, 1) := dw_27 wX10_walk_c rfl
theorem dX10_walk_131 : decode cX10_walk 131 = .ok (.iconst 1, 1) := dw_4 wX10_walk_c rfl
theorem dX10_walk_132 : decode cX10_walk 132 = .ok (.isub, 1) := dw_100 wX10_walk_c rfl
theorem dX10_walk_133 : decode cX10_walk 133 = .ok (.istore_n 2, 1) := dw_61 wX10_walk_c rfl
theorem dX10_walk_134 : decode cX10_walk 134 = .ok (.aload_n 0, 1) := dw_42 wX10_walk_c rfl
theorem dX10_walk_135 : decode cX10_walk 135 = .ok (.getfield 468, 3) := dw_180 wX10_walk_c 1 212 rfl rfl
theorem dX10_walk_138 : decode cX10_walk 138 = .ok (.istore_n 3, 1) := dw_62 wX10_walk_c rfl
theorem dX10_walk_139 : decode cX10_walk 139 = .ok (.aload_n 0, 1) := dw_42 wX10_walk_c rfl
theorem dX10_walk_140 : decode cX10_walk 140 = .ok (.getfield 207, 3) := dw_180 wX10_walk_c 0 207 rfl rfl
theorem dX10_walk_143 : decode cX10_walk 143 = .ok (.bipush 9, 2) := dw_16 wX10_walk_c 9 rfl rfl rfl
theorem dX10_walk_145 : decode cX10_walk 145 = .ok (.iload_n 2, 1) := dw_28 wX10_walk_c rfl
theorem dX10_walk_146 : decode cX10_walk 146 = .ok (.imul, 1) := dw_104 wX10_walk_c rfl
theorem dX10_walk_147 : decode cX10_walk 147 = .ok (.iload_n 3, 1) := dw_29 wX10_walk_c rfl
theorem dX10_walk_148 : decode cX10_walk 148 = .ok (.iadd, 1) := dw_96 wX10_walk_c rfl
theorem dX10_walk_149 : decode cX10_walk 149 = .ok (.iaload, 1) := dw_46 wX10_walk_c rfl
theorem dX10_walk_150 : decode cX10_walk 150 = .ok (.istore 4, 2) := dw_54 wX10_walk_c 4 rfl
theorem dX10_walk_152 : decode cX10_walk 152 = .ok (.aload_n 0, 1) := dw_42 wX10_walk_c rfl
theorem dX10_walk_153 : decode cX10_walk 153 = .ok (.iconst 0, 1) := dw_3 wX10_walk_c rfl
theorem dX10_walk_154 : decode cX10_walk 154 = .ok (.putfield 478, 3) := dw_181 wX10_walk_c 1 222 rfl rfl
theorem dX10_walk_157 : decode cX10_walk 157 = .ok (.iload_n 2, 1) := dw_28 wX10_walk_c rfl
theorem dX10_walk_158 : decode cX10_walk 158 = .ok (.ifCond .eq 99, 3) := dw_153 wX10_walk_c 0 99 rfl rfl rfl
theorem dX10_walk_161 : decode cX10_walk 161 = .ok (.iconst 0, 1) := dw_3 wX10_walk_c rfl
theorem dX10_walk_162 : decode cX10_walk 162 = .ok (.istore 5, 2) := dw_54 wX10_walk_c 5 rfl
theorem dX10_walk_164 : decode cX10_walk 164 = .ok (.iload_n 2, 1) := dw_28 wX10_walk_c rfl
theorem dX10_walk_165 : decode cX10_walk 165 = .ok (.iload 5, 2) := dw_21 wX10_walk_c 5 rfl
theorem dX10_walk_167 : decode cX10_walk 167 = .ok (.ishr, 1) := dw_122 wX10_walk_c rfl
theorem dX10_walk_168 : decode cX10_walk 168 = .ok (.iconst 1, 1) := dw_4 wX10_walk_c rfl
theorem dX10_walk_169 : decode cX10_walk 169 = .ok (.iand, 1) := dw_126 wX10_walk_c rfl
theorem dX10_walk_170 : decode cX10_walk 170 = .ok (.ifCond .eq 42, 3) := dw_153 wX10_walk_c 0 42 rfl rfl rfl
theorem dX10_walk_173 : decode cX10_walk 173 = .ok (.aload_n 0, 1) := dw_42 wX10_walk_c rfl
theorem dX10_walk_174 : decode cX10_walk 174 = .ok (.iload_n 3, 1) := dw_29 wX10_walk_c rfl
theorem dX10_walk_175 : decode cX10_walk 175 = .ok (.iload 5, 2) := dw_21 wX10_walk_c 5 rfl
theorem dX10_walk_177 : decode cX10_walk 177 = .ok (.invokevirtual 475, 3) := dw_182 wX10_walk_c 1 219 rfl rfl
theorem dX10_walk_180 : decode cX10_walk 180 = .ok (.aload_n 0, 1) := dw_42 wX10_walk_c rfl
theorem dX10_walk_181 : decode cX10_walk 181 = .ok (.getfield 207, 3) := dw_180 wX10_walk_c 0 207 rfl rfl
theorem dX10_walk_184 : decode cX10_walk 184 = .ok (.bipush 9, 2) := dw_16 wX10_walk_c 9 rfl rfl rfl
theorem dX10_walk_186 : decode cX10_walk 186 = .ok (.iload_n 2, 1) := dw_28 wX10_walk_c rfl
theorem dX10_walk_187 : decode cX10_walk 187 = .ok (.iconst 1, 1) := dw_4 wX10_walk_c rfl
theorem dX10_walk_188 : decode cX10_walk 188 = .ok (.iload 5, 2) := dw_21 wX10_walk_c 5 rfl
theorem dX10_walk_190 : decode cX10_walk 190 = .ok (.ishl, 1) := dw_120 wX10_walk_c rfl
theorem dX10_walk_191 : decode cX10_walk 191 = .ok (.ixor, 1) := dw_130 wX10_walk_c rfl
theorem dX10_walk_192 : decode cX10_walk 192 = .ok (.imul, 1) := dw_104 wX10_walk_c rfl
theorem dX10_walk_193 : decode cX10_walk 193 = .ok (.iload 5, 2) := dw_21 wX10_walk_c 5 rfl
theorem dX10_walk_195 : decode cX10_walk 195 = .ok (.iadd, 1) := dw_96 wX10_walk_c rfl
theorem dX10_walk_196 : decode cX10_walk 196 = .ok (.iaload, 1) := dw_46 wX10_walk_c rfl
theorem dX10_walk_197 : decode cX10_walk 197 = .ok (.iadd, 1) := dw_96 wX10_walk_c rfl
theorem dX10_walk_198 : decode cX10_walk 198 = .ok (.aload_n 0, 1) := dw_42 wX10_walk_c rfl
theorem dX10_walk_199 : decode cX10_walk 199 = .ok (.getfield 207, 3) := dw_180 wX10_walk_c 0 207 rfl rfl
theorem dX10_walk_202 : decode cX10_walk 202 = .ok (.bipush 9, 2) := dw_16 wX10_walk_c 9 rfl rfl rfl
theorem dX10_walk_204 : decode cX10_walk 204 = .ok (.iload_n 2, 1) := dw_28 wX10_walk_c rfl
theorem dX10_walk_205 : decode cX10_walk 205 = .ok (.imul, 1) := dw_104 wX10_walk_c rfl
theorem dX10_walk_206 : decode cX10_walk 206 = .ok (.iload_n 3, 1) := dw_29 wX10_walk_c rfl
theorem dX10_walk_207 : decode cX10_walk 207 = .ok (.iadd, 1) := dw_96 wX10_walk_c rfl
theorem dX10_walk_208 : decode cX10_walk 208 = .ok (.iaload, 1) := dw_46 wX10_walk_c rfl
theorem dX10_walk_209 : decode cX10_walk 209 = .ok (.if_icmp .eq 9, 3) := dw_159 wX10_walk_c 0 9 rfl rfl rfl
theorem dX10_walk_212 : decode cX10_walk 212 = .ok (.iinc 5 1, 3) := dw_132 wX10_walk_c 5 1 rfl rfl rfl
theorem dX10_walk_215 : decode cX10_walk 215 = .ok (.goto (-51), 3) := dn_167 wX10_walk_c 255 205 rfl (by decide)
theorem dX10_walk_218 : decode cX10_walk 218 = .ok (.aload_n 0, 1) := dw_42 wX10_walk_c rfl
theorem dX10_walk_219 : decode cX10_walk 219 = .ok (.getfield 204, 3) := dw_180 wX10_walk_c 0 204 rfl rfl
theorem dX10_walk_222 : decode cX10_walk 222 = .ok (.aload_n 0, 1) := dw_42 wX10_walk_c rfl
theorem dX10_walk_223 : decode cX10_walk 223 = .ok (.getfield 478, 3) := dw_180 wX10_walk_c 1 222 rfl rfl
theorem dX10_walk_226 : decode cX10_walk 226 = .ok (.aload_n 0, 1) := dw_42 wX10_walk_c rfl
theorem dX10_walk_227 : decode cX10_walk 227 = .ok (.getfield 201, 3) := dw_180 wX10_walk_c 0 201 rfl rfl
theorem dX10_walk_230 : decode cX10_walk 230 = .ok (.iload 5, 2) := dw_21 wX10_walk_c 5 rfl
theorem dX10_walk_232 : decode cX10_walk 232 = .ok (.iaload, 1) := dw_46 wX10_walk_c rfl
theorem dX10_walk_233 : decode cX10_walk 233 = .ok (.iastore, 1) := dw_79 wX10_walk_c rfl
theorem dX10_walk_234 : decode cX10_walk 234 = .ok (.aload_n 0, 1) := dw_42 wX10_walk_c rfl
theorem dX10_walk_235 : decode cX10_walk 235 = .ok (.dup, 1) := dw_89 wX10_walk_c rfl
theorem dX10_walk_236 : decode cX10_walk 236 = .ok (.getfield 478, 3) := dw_180 wX10_walk_c 1 222 rfl rfl
theorem dX10_walk_239 : decode cX10_walk 239 = .ok (.iconst 1, 1) := dw_4 wX10_walk_c rfl
theorem dX10_walk_240 : decode cX10_walk 240 = .ok (.iadd, 1) := dw_96 wX10_walk_c rfl
theorem dX10_walk_241 : decode cX10_walk 241 = .ok (.putfield 478, 3) := dw_181 wX10_walk_c 1 222 rfl rfl
theorem dX10_walk_244 : decode cX10_walk 244 = .ok (.iload_n 2, 1) := dw_28 wX10_walk_c rfl
theorem dX10_walk_245 : decode cX10_walk 245 = .ok (.iconst 1, 1) := dw_4 wX10_walk_c rfl
theorem dX10_walk_246 : decode cX10_walk 246 = .ok (.iload 5, 2) := dw_21 wX10_walk_c 5 rfl
theorem dX10_walk_248 : decode cX10_walk 248 = .ok (.ishl, 1) := dw_120 wX10_walk_c rfl
theorem dX10_walk_249 : decode cX10_walk 249 = .ok (.ixor, 1) := dw_130 wX10_walk_c rfl
theorem dX10_walk_250 : decode cX10_walk 250 = .ok (.istore_n 2, 1) := dw_61 wX10_walk_c rfl
theorem dX10_walk_251 : decode cX10_walk 251 = .ok (.iload 5, 2) := dw_21 wX10_walk_c 5 rfl
theorem dX10_walk_253 : decode cX10_walk 253 = .ok (.istore_n 3, 1) := dw_62 wX10_walk_c rfl
theorem dX10_walk_254 : decode cX10_walk 254 = .ok (.goto (-97), 3) := dn_167 wX10_walk_c 255 159 rfl (by decide)
theorem dX10_walk_257 : decode cX10_walk 257 = .ok (.aload_n 0, 1) := dw_42 wX10_walk_c rfl
theorem dX10_walk_258 : decode cX10_walk 258 = .ok (.iconst 0, 1) := dw_3 wX10_walk_c rfl
theorem dX10_walk_259 : decode cX10_walk 259 = .ok (.putfield 468, 3) := dw_181 wX10_walk_c 1 212 rfl rfl
theorem dX10_walk_262 : decode cX10_walk 262 = .ok (.iload 4, 2) := dw_21 wX10_walk_c 4 rfl
theorem dX10_walk_264 : decode cX10_walk 264 = .ok (.ireturn, 1) := dw_172 wX10_walk_c rfl
set_option maxHeartbeats 4000000 in
set_option maxRecDepth 100000 in
theorem t_X10_walk (l : Launch) (dC : Nat → ClassId) (dI : Nat → Nat → Nat) (dA : Nat → ClassId) (L : List Nat) (h : hx_h) (sz : Nat) (x : Nat) (hT : hx_T T_tb L h) (gx : hx_g L h x 10) (qls : Nat) (gqls : hx_g L h qls 112) (f_x_91 : h.2.2 x 91 = some qls) (qag : Nat) (gqag : hx_g L h qag 73) (f_x_38 : h.2.2 x 38 = some qag) (qdx : Nat) (gqdx : hx_g L h qdx 61) (f_x_24 : h.2.2 x 24 = some qdx) (qdy : Nat) (gqdy : hx_g L h qdy 62) (f_x_25 : h.2.2 x 25 = some qdy) (qhm : Nat) (gqhm : hx_g L h qhm 114) (f_x_94 : h.2.2 x 94 = some qhm) (qwd : Nat) (gqwd : hx_g L h qwd 113) (f_x_93 : h.2.2 x 93 = some qwd) (lf : Nat → Int32) (af_qls : h.2.1 qls = lf) (agf : Nat → Int32) (af_qag : h.2.1 qag = agf) (dxf : Nat → Int32) (af_qdx : h.2.1 qdx = dxf) (dyf : Nat → Int32) (af_qdy : h.2.1 qdy = dyf) (hm0 : Nat → Int32) (af_qhm : h.2.1 qhm = hm0) (wd0 : Nat → Int32) (af_qwd : h.2.1 qwd = wd0) (n0 : Int32) (f_x_90 : h.2.1 x 90 = n0) : Met l yX10_walk (Cond.code yX10_walk cX10_walk 6 (some .int) :: hx_all) ({ frames := 2, cells := 0, slots := 0, locals := 49 }) (va_Pc [.ref x] (hx_B T_tb (P_ty dA) (dC, dI) vwCl L h sz)) (va_Qi (fun (r : Int32) (u : List Nat × hx_h) => (∃ (ln1 : Int32) (wm1 : Int32) (wd1 : Nat → Int32), u.2.2.1 x 90 = ln1 ∧ u.2.2.1 x 92 = wm1 ∧ u.2.2.1 qwd = wd1 ∧ (ln1.toInt = 0 ∧ wm1.toInt = n0.toInt ∧ hx_WA (hx_fr lf agf dxf dyf n0.toInt) n0.toInt lf wd1 r.toInt)) ∧ hx_T T_tb u.1 u.2 ∧ hx_S T_tb [(10, 90), (10, 92), (113, 0), (114, 0)] L h u.1 u.2) (hx_E T_tb (P_ty dA) (dC, dI) vwCl (hx_A L sz)) (hx_A L sz)) 0 0 (hx_A L sz) := by
  refine hx_met (lv := [(0, .ref x)]) (by decide +kernel) rfl (Nat.le_of_ble_eq_true rfl) rfl ?_
  intro p e s m below meth c hx hb hml hr hlk hts0 hown hin hsz hW ls hl
  have hts : ∀ w ∈ hx_all, w.before _ s = true := fun w hw => hts0 w (List.mem_cons_of_mem _ hw)
  have hown : s.vm.findClass "SmallCourtModel" = some m.cls := hown
  have hM : hx_S T_tb [(10, 90), (10, 92), (113, 0), (114, 0)] L h L h := hx_S.rf
  have b_n0 := hT.gi gx tt_10 (k := 90) rfl
  rw [f_x_90] at b_n0
  have b_n0 : 0 ≤ n0.toInt ∧ n0.toInt ≤ 8 := b_n0
  refine lv_iconst (v := 1) hx hb dX10_walk_0 ?o0 ?_
  case o0 => decide
  refine lv_aload_n hx hb dX10_walk_1 rfl (lv_at hl 0 rfl) ?_
  refine hk_geti hx hb hts hC_10 hown hW (gx.S hM) tt_10 90 ?o1 rfl kw_1233 ⟨rfl, rfl, rfl⟩ f_x_90 dX10_walk_2 ?_
  case o1 => decide
  refine lv_ishl hx hb dX10_walk_5 ?_
  refine lv_topi (fun x_1 ex_1 => ?_)
  have zx_1 : 1 ≤ x_1.toInt ∧ x_1.toInt ≤ 256 := ?o2
  case o2 =>
    rw [ex_1]
    refine hx_shl8 ?o3 ?o4
    case o3 => omega
    case o4 => omega
  refine lv_istore_n (lv' := [(1, .int x_1), (0, .ref x)]) hx hb dX10_walk_6 rfl hl ?o5 rfl (fun ls hl => ?_)
  case o5 => decide
  have hsets : x_1.toInt = 2 ^ n0.toInt.toNat := ?o6
  case o6 =>
    rw [ex_1]
    refine hx_sh2 ?o7 ?o8
    case o7 => omega
    case o8 => omega
  refine lv_iconst (v := 0) hx hb dX10_walk_7 ?o9 ?_
  case o9 => decide
  refine lv_istore_n (lv' := [(2, .int (0 : Int32)), (1, .int x_1), (0, .ref x)]) hx hb dX10_walk_8 rfl hl ?o10 rfl (fun ls hl => ?_)
  case o10 => decide
  have loop9 : ∀ (n9 : Nat) (iv9_2 : Int32) (ia9_qhm : Nat → Int32) (H : Heap) (locs : List Loc) (hL1 : List Nat) (hl1 : hx_h), 0 ≤ iv9_2.toInt → iv9_2.toInt ≤ 256 → (hx_D (hx_fr lf agf dxf dyf n0.toInt) n0.toInt ia9_qhm iv9_2.toInt 0) → ∀ (ls : Array Slot), 256 - iv9_2.toInt < (n9 : Int) → hx_W T_tb (P_ty dA) (dC, dI) vwCl (hx_A L sz) s.heap hL1 hl1 s H locs → hx_T T_tb hL1 hl1 → hx_S T_tb [(10, 90), (10, 92), (113, 0), (114, 0)] L h hL1 hl1 → hl1.2.1 x 90 = n0 → hl1.2.1 qhm = ia9_qhm → hl1.2.1 qwd = wd0 → lv_has ls 6 [(2, .int iv9_2), (1, .int x_1), (0, .ref x)] → W p l e ({ frames := 2, cells := 0, slots := 0, locals := 49 }) s m ([.ref x] : List Value).toArray below meth c H locs 0 0 (MQ below (va_Qi (fun (r : Int32) (u : List Nat × hx_h) => (∃ (ln1 : Int32) (wm1 : Int32) (wd1 : Nat → Int32), u.2.2.1 x 90 = ln1 ∧ u.2.2.1 x 92 = wm1 ∧ u.2.2.1 qwd = wd1 ∧ (ln1.toInt = 0 ∧ wm1.toInt = n0.toInt ∧ hx_WA (hx_fr lf agf dxf dyf n0.toInt) n0.toInt lf wd1 r.toInt)) ∧ hx_T T_tb u.1 u.2 ∧ hx_S T_tb [(10, 90), (10, 92), (113, 0), (114, 0)] L h u.1 u.2) (hx_E T_tb (P_ty dA) (dC, dI) vwCl (hx_A L sz)) (hx_A L sz)) ([.ref x] : List Value).toArray s 0 0 (hx_A L sz)) (F0 m 9 ls []) := by
    intro n9
    induction n9 with
    | zero => intro iv9_2 ia9_qhm H locs hL1 hl1 bliv9_2 buiv9_2 vi9_0 ls hn9; exfalso; omega
    | succ n9 ih9 =>
      intro iv9_2 ia9_qhm H locs hL1 hl1 bliv9_2 buiv9_2 vi9_0 ls hn9 hW hT hM f_x_90 nia9_qhm af_qwd hl
      refine lv_iload_n hx hb dX10_walk_9 rfl (lv_at hl 0 rfl) ?_
      refine lv_iload_n hx hb dX10_walk_10 rfl (lv_at hl 1 rfl) ?_
      refine hb_icmp_ge (zx := iv9_2.toInt) (zy := x_1.toInt) (tgt := 130) hx hb rfl rfl dX10_walk_11 ?o11 (fun c_2 => ?_) (fun c_2 => ?_)
      case o11 => decide
      · skip
        refine lv_iload_n hx hb dX10_walk_130 rfl (lv_at hl 1 rfl) ?_
        refine lv_iconst (v := 1) hx hb dX10_walk_131 ?o12 ?_
        case o12 => decide
        refine lv_isub hx hb dX10_walk_132 ?_
        have rg_3 := i32_r x_1
        refine lv_topi (fun x_4 ex_4 => ?_)
        have zx_4 : x_4.toInt = x_1.toInt - 1 := ?o13
        case o13 =>
          rw [ex_4]
          refine i32_sub rfl ?o14 ?o15 ?o16
          case o14 => decide
          case o15 => omega
          case o16 => omega
        refine lv_istore_n (lv' := [(2, .int x_4), (1, .int x_1), (0, .ref x)]) hx hb dX10_walk_133 rfl hl ?o17 rfl (fun ls hl => ?_)
        case o17 => decide
        refine lv_aload_n hx hb dX10_walk_134 rfl (lv_at hl 2 rfl) ?_
        refine hk_geti hx hb hts hC_10 hown hW (gx.S hM) tt_10 90 ?o18 rfl kw_1233 ⟨rfl, rfl, rfl⟩ f_x_90 dX10_walk_135 ?_
        case o18 => decide
        refine lv_istore_n (lv' := [(3, .int n0), (2, .int x_4), (1, .int x_1), (0, .ref x)]) hx hb dX10_walk_138 rfl hl ?o19 rfl (fun ls hl => ?_)
        case o19 => decide
        refine lv_aload_n hx hb dX10_walk_139 rfl (lv_at hl 3 rfl) ?_
        refine hk_getr hx hb hts hC_10 hown hW (gx.S hM) tt_10 94 ?o20 rfl kw_1237 ⟨rfl, rfl, rfl⟩ ((hM.o gx trivial rfl).2.trans f_x_94) dX10_walk_140 ?_
        case o20 => decide
        refine lv_bipush (v := 9) hx hb dX10_walk_143 ?o21 ?_
        case o21 => decide
        refine lv_iload_n hx hb dX10_walk_145 rfl (lv_at hl 1 rfl) ?_
        refine lv_imul hx hb dX10_walk_146 ?_
        refine lv_topi (fun x_5 ex_5 => ?_)
        have zx_5 : x_5.toInt = 9 * x_4.toInt := ?o22
        case o22 =>
          rw [ex_5]
          refine i32_mul ?o23 rfl rfl ?o24 ?o25
          case o23 => decide
          case o24 => omega
          case o25 => omega
        refine lv_iload_n hx hb dX10_walk_147 rfl (lv_at hl 0 rfl) ?_
        refine lv_iadd hx hb dX10_walk_148 ?_
        have rg_6 := i32_r x_5
        have rg_7 := i32_r n0
        refine lv_topi (fun x_8 ex_8 => ?_)
        have zx_8 : x_8.toInt = x_5.toInt + n0.toInt := ?o26
        case o26 =>
          rw [ex_8]
          refine i32_add rfl rfl ?o27 ?o28
          case o27 => omega
          case o28 => omega
        refine hx_iald hx hb hW hT (gqhm.S hM) tt_114 rfl ⟨?o29, ?o30⟩ dX10_walk_149 (fun x_9 ex_9 lx_9 ux_9 => ?_)
        case o29 => omega
        case o30 => omega
        have ax_9 : x_9 = ia9_qhm x_8.toNatClampNeg := ex_9.trans (congrFun nia9_qhm _)
        have hDf : hx_D (hx_fr lf agf dxf dyf n0.toInt) n0.toInt ia9_qhm (2 ^ n0.toInt.toNat) 0 := hx_D_le vi9_0 ?o31
        case o31 => omega
        have hl0 : x_4.toInt = 2 ^ n0.toInt.toNat - 1 := ?o32
        case o32 => omega
        have hv0 : x_9.toInt = hx_HM ia9_qhm (2 ^ n0.toInt.toNat - 1) n0.toInt := (congrArg Int32.toInt ax_9).trans (congrArg (fun z => (ia9_qhm z).toInt) (by unfold Int32.toNatClampNeg; omega))
        have hRf : hx_mn (hx_fr lf agf dxf dyf n0.toInt) (hx_HM ia9_qhm) n0.toInt (2 ^ n0.toInt.toNat - 1) n0.toInt x_9.toInt := ?o33
        case o33 =>
          rw [hv0]
          refine hx_D_mn hDf ?o34 ?o35 ?o36 ?o37
          case o34 => omega
          case o35 => omega
          case o36 => omega
          case o37 => omega
        refine lv_istore (lv' := [(4, .int x_9), (3, .int n0), (2, .int x_4), (1, .int x_1), (0, .ref x)]) hx hb dX10_walk_150 hl ?o38 rfl (fun ls hl => ?_)
        case o38 => decide
        have hpc0 : hx_pc x_4.toInt = n0.toInt := ?o39
        case o39 =>
          rw [zx_4, hsets]
          refine hx_pc_all ?o40 ?o41
          case o40 => omega
          case o41 => omega
        refine lv_aload_n hx hb dX10_walk_152 rfl (lv_at hl 4 rfl) ?_
        refine lv_iconst (v := 0) hx hb dX10_walk_153 ?o42 ?_
        case o42 => decide
        refine hx_puti hx hb hts hC_10 hown hW hT (hx_S.rf (M := [(10, 92)])) (gx.S hM) tt_10 92 ?o43 rfl kw_1235 ⟨rfl, rfl, rfl⟩ rfl (x := (0 : Int32)) ?o44 rfl rfl rfl (List.mem_singleton.mpr rfl) dX10_walk_154 (fun H locs h_10 eh_10 hW hT hs => ?_)
        case o43 => decide
        case o44 => decide
        replace f_x_90 := (hs.o (gx.S hM) trivial rfl).1.trans f_x_90
        replace af_qwd : h_10.2.1 qwd = wd0 := (funext fun j => (hs.a (gqwd.S hM) rfl j).1).trans af_qwd
        replace nia9_qhm : h_10.2.1 qhm = ia9_qhm := (funext fun j => (hs.a (gqhm.S hM) rfl j).1).trans nia9_qhm
        replace ex_9 := ex_9.trans (hs.a (gqhm.S hM) rfl _).1.symm
        replace hM := hM.tr (hs.mono ?o45)
        case o45 => decide
        have f_11 : h_10.2.1 x 92 = (0 : Int32) := ?o46
        case o46 =>
          rw [eh_10]
          exact hx_pi_at _ _ _ _
        have loop157 : ∀ (n157 : Nat) (iv157_2 iv157_3 fw157_x_92 : Int32) (ia157_qwd : Nat → Int32) (H : Heap) (locs : List Loc) (hL1 : List Nat) (hl1 : hx_h), 0 ≤ iv157_2.toInt → iv157_2.toInt ≤ 255 → 0 ≤ iv157_3.toInt → iv157_3.toInt ≤ 8 → 0 ≤ fw157_x_92.toInt → fw157_x_92.toInt ≤ 8 → (iv157_2.toInt < x_1.toInt) → (iv157_3.toInt ≤ n0.toInt) → (fw157_x_92.toInt + hx_pc iv157_2.toInt = n0.toInt) → (hx_wj (hx_fr lf agf dxf dyf n0.toInt) (hx_HM ia9_qhm) n0.toInt x_9.toInt lf ia157_qwd fw157_x_92.toInt iv157_2.toInt iv157_3.toInt (hx_HM ia9_qhm iv157_2.toInt iv157_3.toInt)) → ∀ (ls : Array Slot), iv157_2.toInt < (n157 : Int) → hx_W T_tb (P_ty dA) (dC, dI) vwCl (hx_A L sz) s.heap hL1 hl1 s H locs → hx_T T_tb hL1 hl1 → hx_S T_tb [(10, 90), (10, 92), (113, 0), (114, 0)] L h hL1 hl1 → hl1.2.1 x 92 = fw157_x_92 → hl1.2.1 x 90 = n0 → hl1.2.1 qwd = ia157_qwd → hl1.2.1 qhm = ia9_qhm → lv_has ls 6 [(4, .int x_9), (3, .int iv157_3), (2, .int iv157_2), (1, .int x_1), (0, .ref x)] → W p l e ({ frames := 2, cells := 0, slots := 0, locals := 49 }) s m ([.ref x] : List Value).toArray below meth c H locs 0 0 (MQ below (va_Qi (fun (r : Int32) (u : List Nat × hx_h) => (∃ (ln1 : Int32) (wm1 : Int32) (wd1 : Nat → Int32), u.2.2.1 x 90 = ln1 ∧ u.2.2.1 x 92 = wm1 ∧ u.2.2.1 qwd = wd1 ∧ (ln1.toInt = 0 ∧ wm1.toInt = n0.toInt ∧ hx_WA (hx_fr lf agf dxf dyf n0.toInt) n0.toInt lf wd1 r.toInt)) ∧ hx_T T_tb u.1 u.2 ∧ hx_S T_tb [(10, 90), (10, 92), (113, 0), (114, 0)] L h u.1 u.2) (hx_E T_tb (P_ty dA) (dC, dI) vwCl (hx_A L sz)) (hx_A L sz)) ([.ref x] : List Value).toArray s 0 0 (hx_A L sz)) (F0 m 157 ls []) := by
          intro n157
          induction n157 with
          | zero => intro iv157_2 iv157_3 fw157_x_92 ia157_qwd H locs hL1 hl1 bliv157_2 buiv157_2 bliv157_3 buiv157_3 blfw157_x_92 bufw157_x_92 vi157_0 vi157_1 vi157_2 vi157_3 ls hn157; exfalso; omega
          | succ n157 ih157 =>
            intro iv157_2 iv157_3 fw157_x_92 ia157_qwd H locs hL1 hl1 bliv157_2 buiv157_2 bliv157_3 buiv157_3 blfw157_x_92 bufw157_x_92 vi157_0 vi157_1 vi157_2 vi157_3 ls hn157 hW hT hM ffw157_x_92 f_x_90 nia157_qwd nia9_qhm hl
            refine lv_iload_n hx hb dX10_walk_157 rfl (lv_at hl 2 rfl) ?_
            refine hb_if_eq (zx := iv157_2.toInt) (tgt := 257) hx hb rfl dX10_walk_158 ?o47 (fun c_12 => ?_) (fun c_12 => ?_)
            case o47 => decide
            · skip
              refine lv_aload_n hx hb dX10_walk_257 rfl (lv_at hl 4 rfl) ?_
              refine lv_iconst (v := 0) hx hb dX10_walk_258 ?o48 ?_
              case o48 => decide
              refine hx_puti hx hb hts hC_10 hown hW hT (hx_S.rf (M := [(10, 90)])) (gx.S hM) tt_10 90 ?o49 rfl kw_1233 ⟨rfl, rfl, rfl⟩ rfl (x := (0 : Int32)) ?o50 rfl rfl rfl (List.mem_singleton.mpr rfl) dX10_walk_259 (fun H locs h_13 eh_13 hW hT hs => ?_)
              case o49 => decide
              case o50 => decide
              replace ffw157_x_92 := (hs.o (gx.S hM) trivial rfl).1.trans ffw157_x_92
              replace nia9_qhm : h_13.2.1 qhm = ia9_qhm := (funext fun j => (hs.a (gqhm.S hM) rfl j).1).trans nia9_qhm
              replace nia157_qwd : h_13.2.1 qwd = ia157_qwd := (funext fun j => (hs.a (gqwd.S hM) rfl j).1).trans nia157_qwd
              replace hM := hM.tr (hs.mono ?o51)
              case o51 => decide
              have f_14 : h_13.2.1 x 90 = (0 : Int32) := ?o52
              case o52 =>
                rw [eh_13]
                exact hx_pi_at _ _ _ _
              refine lv_iload hx hb dX10_walk_262 (lv_at hl 0 rfl) ?_
              have zo_0 : (0 : Int32).toInt = 0 := ?o53
              case o53 => decide
              have hz0 : iv157_2.toInt = 0 := ?o54
              case o54 => omega
              have hwm := vi157_2
              rw [hz0, hx_pc_0] at hwm
              refine hx_reti hx hb hr hlk hW ⟨⟨(0 : Int32), fw157_x_92, ia157_qwd, f_14, ffw157_x_92, nia157_qwd, ⟨?o55, ?o56, hx_HM ia9_qhm, hx_D_WT hDf, hRf, _, _, _, hx_wj_j vi157_3 ?o57⟩⟩, hT, hM⟩ dX10_walk_264
              case o55 => decide
              case o56 => omega
              case o57 => omega
            · skip
              obtain ⟨ks, hk0, hk1, hk2, hk3⟩ := (vi9_0.1 iv157_2.toInt iv157_3.toInt (by omega) (by omega) (by omega) (by omega)).2.2.1 (by omega)
              have hpc1 := hx_pc_1 (l := iv157_2.toInt) ?o58 ?o59
              case o58 => omega
              case o59 => omega
              refine lv_iconst (v := 0) hx hb dX10_walk_161 ?o60 ?_
              case o60 => decide
              refine lv_istore (lv' := [(5, .int (0 : Int32)), (4, .int x_9), (3, .int iv157_3), (2, .int iv157_2), (1, .int x_1), (0, .ref x)]) hx hb dX10_walk_162 hl ?o61 rfl (fun ls hl => ?_)
              case o61 => decide
              have loop164 : ∀ (n164 : Nat) (iv164_5 : Int32) (H : Heap) (locs : List Loc) (hL1 : List Nat) (hl1 : hx_h), 0 ≤ iv164_5.toInt → iv164_5.toInt ≤ 7 → (iv164_5.toInt ≤ ks) → (∀ k' : Int, 0 ≤ k' → k' < iv164_5.toInt → hx_bt iv157_2.toInt k' = true → (hx_fr lf agf dxf dyf n0.toInt) iv157_3.toInt k' + hx_HM ia9_qhm (iv157_2.toInt - hx_p2 k') k' ≠ hx_HM ia9_qhm iv157_2.toInt iv157_3.toInt) → ∀ (ls : Array Slot), 7 - iv164_5.toInt < (n164 : Int) → hx_W T_tb (P_ty dA) (dC, dI) vwCl (hx_A L sz) s.heap hL1 hl1 s H locs → hx_T T_tb hL1 hl1 → hx_S T_tb [(10, 90), (10, 92), (113, 0), (114, 0)] L h hL1 hl1 → hl1.2.1 x 90 = n0 → hl1.2.1 x 92 = fw157_x_92 → hl1.2.1 qhm = ia9_qhm → hl1.2.1 qwd = ia157_qwd → lv_has ls 6 [(5, .int iv164_5), (4, .int x_9), (3, .int iv157_3), (2, .int iv157_2), (1, .int x_1), (0, .ref x)] → W p l e ({ frames := 2, cells := 0, slots := 0, locals := 49 }) s m ([.ref x] : List Value).toArray below meth c H locs 0 0 (MQ below (va_Qi (fun (r : Int32) (u : List Nat × hx_h) => (∃ (ln1 : Int32) (wm1 : Int32) (wd1 : Nat → Int32), u.2.2.1 x 90 = ln1 ∧ u.2.2.1 x 92 = wm1 ∧ u.2.2.1 qwd = wd1 ∧ (ln1.toInt = 0 ∧ wm1.toInt = n0.toInt ∧ hx_WA (hx_fr lf agf dxf dyf n0.toInt) n0.toInt lf wd1 r.toInt)) ∧ hx_T T_tb u.1 u.2 ∧ hx_S T_tb [(10, 90), (10, 92), (113, 0), (114, 0)] L h u.1 u.2) (hx_E T_tb (P_ty dA) (dC, dI) vwCl (hx_A L sz)) (hx_A L sz)) ([.ref x] : List Value).toArray s 0 0 (hx_A L sz)) (F0 m 164 ls []) := by
                intro n164
                induction n164 with
                | zero => intro iv164_5 H locs hL1 hl1 bliv164_5 buiv164_5 vi164_0 vi164_1 ls hn164; exfalso; omega
                | succ n164 ih164 =>
                  intro iv164_5 H locs hL1 hl1 bliv164_5 buiv164_5 vi164_0 vi164_1 ls hn164 hW hT hM f_x_90 ffw157_x_92 nia9_qhm nia157_qwd hl
                  refine lv_iload_n hx hb dX10_walk_164 rfl (lv_at hl 3 rfl) ?_
                  have hbits := hx_bits (L := iv157_2) (K := iv164_5) ?o62 ?o63 ?o64 ?o65
                  case o62 => omega
                  case o63 => omega
                  case o64 => omega
                  case o65 => omega
                  refine lv_iload hx hb dX10_walk_165 (lv_at hl 0 rfl) ?_
                  refine lv_ishr hx hb dX10_walk_167 ?_
                  refine lv_topi (fun x_15 ex_15 => ?_)
                  refine lv_iconst (v := 1) hx hb dX10_walk_168 ?o66 ?_
                  case o66 => decide
                  refine lv_iand hx hb dX10_walk_169 ?_
                  refine lv_topi (fun x_16 ex_16 => ?_)
                  have zx_16 : 0 ≤ x_16.toInt ∧ x_16.toInt ≤ 1 := ?o67
                  case o67 =>
                    rw [ex_16]
                    refine hx_andR ?o68 ?o69
                    case o68 => decide
                    case o69 => decide
                  refine hb_if_eq (zx := x_16.toInt) (tgt := 212) hx hb rfl dX10_walk_170 ?o70 (fun c_17 => ?_) (fun c_17 => ?_)
                  case o70 => decide
                  · skip
                    have hbf := hx_bit_no hbits.1 ex_15 ex_16 ?o71
                    case o71 => omega
                    have hne : iv164_5.toInt ≠ ks := fun z => by have q := hbf; rw [z, hk2] at q; cases q
                    obtain ⟨x_18, ex_18⟩ : ∃ y : Int32, y = iv164_5 + Int32.ofInt 1 := ⟨_, rfl⟩
                    have rg_19 := i32_r iv164_5
                    have zx_18 : x_18.toInt = iv164_5.toInt + (1) := ?o72
                    case o72 =>
                      rw [ex_18]
                      refine i32_add rfl ?o73 ?o74 ?o75
                      case o73 => decide
                      case o74 => omega
                      case o75 => omega
                    refine lv_iinc (v := x_18) (lv' := [(5, .int x_18), (4, .int x_9), (3, .int iv157_3), (2, .int iv157_2), (1, .int x_1), (0, .ref x)]) hx hb dX10_walk_212 hl (k := 0) rfl ex_18.symm ?o76 rfl (fun ls hl => ?_)
                    case o76 => decide
                    refine lv_goto (tgt := 164) hx hb dX10_walk_215 ?o77 ?_
                    case o77 => decide
                    refine ih164 x_18 _ _ hL1 hl1 ?o78 ?o79 ?o80 (fun k' h0 h1 hb => by rcases (show k' < iv164_5.toInt ∨ k' = iv164_5.toInt by omega) with z | z; exact vi164_1 k' h0 z hb; subst z; exact (by exfalso; rw [hbf] at hb; cases hb)) ls ?o81 hW hT hM f_x_90 ffw157_x_92 nia9_qhm nia157_qwd (lv_sub hl [0, 1, 2, 3, 4, 5] rfl)
                    case o78 => omega
                    case o79 => omega
                    case o80 => omega
                    case o81 => omega
                  · skip
                    have hbt := hx_bit_yes hbits.1 ex_15 ex_16 ?o82
                    case o82 => omega
                    refine lv_aload_n hx hb dX10_walk_173 rfl (lv_at hl 5 rfl) ?_
                    refine lv_iload_n hx hb dX10_walk_174 rfl (lv_at hl 2 rfl) ?_
                    refine lv_iload hx hb dX10_walk_175 (lv_at hl 0 rfl) ?_
                    refine hx_goi (hx_runV (As := [.int iv157_3, .int iv164_5]) (rest := []) ⟨hx, hb, hml, hown, hts⟩ hW (gx.S hM) tt_10 (T := TX10) (N := 98) rfl (t_X10_far_2 l dC dI dA hL1 hl1 H.size x iv157_3 iv164_5 hT (gx.S hM) qls (gqls.S hM) ((hM.o gx trivial rfl).2.trans f_x_91) qag (gqag.S hM) ((hM.o gx trivial rfl).2.trans f_x_38) qdx (gqdx.S hM) ((hM.o gx trivial rfl).2.trans f_x_24) qdy (gqdy.S hM) ((hM.o gx trivial rfl).2.trans f_x_25) lf (hx_afS hM gqls rfl af_qls) agf (hx_afS hM gqag rfl af_qag) dxf (hx_afS hM gqdx rfl af_qdx) dyf (hx_afS hM gqdy rfl af_qdy) n0 f_x_90 ⟨?o83, ?o84⟩ ⟨?o85, ?o86⟩) (cwV 2 hts (hx_gV kw_1725 kw_1722 kw_1724 kw_90 kw_103) rfl rfl rfl (by decide +kernel) ⟨Nat.le_of_ble_eq_true rfl, Nat.le_of_ble_eq_true rfl⟩) rfl hl.1 rfl (Nat.le_of_ble_eq_true rfl) dX10_walk_177 ⟨Nat.le_of_ble_eq_true rfl, Nat.le_of_ble_eq_true rfl⟩) hW (fun r_22 L_20 h_21 H locs p_23 hW => ?_)
                    case o83 => omega
                    case o84 => omega
                    case o85 => omega
                    case o86 => omega
                    obtain ⟨hr_24, hT, hs⟩ := p_23
                    replace hT : hx_T T_tb L_20 h_21 := hT
                    replace hs : hx_S T_tb [] hL1 hl1 L_20 h_21 := hs
                    replace f_x_90 := (hs.o (gx.S hM) trivial rfl).1.trans f_x_90
                    replace ffw157_x_92 := (hs.o (gx.S hM) trivial rfl).1.trans ffw157_x_92
                    replace nia9_qhm : h_21.2.1 qhm = ia9_qhm := (funext fun j => (hs.a (gqhm.S hM) rfl j).1).trans nia9_qhm
                    replace nia157_qwd : h_21.2.1 qwd = ia157_qwd := (funext fun j => (hs.a (gqwd.S hM) rfl j).1).trans nia157_qwd
                    replace hM := hM.tr (hs.mono ?o87)
                    case o87 => decide
                    refine lv_aload_n hx hb dX10_walk_180 rfl (lv_at hl 5 rfl) ?_
                    refine hk_getr hx hb hts hC_10 hown hW (gx.S hM) tt_10 94 ?o88 rfl kw_1237 ⟨rfl, rfl, rfl⟩ ((hM.o gx trivial rfl).2.trans f_x_94) dX10_walk_181 ?_
                    case o88 => decide
                    refine lv_bipush (v := 9) hx hb dX10_walk_184 ?o89 ?_
                    case o89 => decide
                    refine lv_iload_n hx hb dX10_walk_186 rfl (lv_at hl 3 rfl) ?_
                    refine lv_iconst (v := 1) hx hb dX10_walk_187 ?o90 ?_
                    case o90 => decide
                    refine lv_iload hx hb dX10_walk_188 (lv_at hl 0 rfl) ?_
                    refine lv_ishl hx hb dX10_walk_190 ?_
                    refine lv_topi (fun x_25 ex_25 => ?_)
                    have zx_25 : 1 ≤ x_25.toInt ∧ x_25.toInt ≤ 128 := ?o91
                    case o91 =>
                      rw [ex_25]
                      refine hx_shl7 ?o92 ?o93
                      case o92 => omega
                      case o93 => omega
                    refine lv_ixor hx hb dX10_walk_191 ?_
                    refine lv_topi (fun x_26 ex_26 => ?_)
                    have hX := hbits.2.2.2 hbt
                    rw [← ex_25, ← ex_26] at hX
                    have hX1 := hX.1; have hX2 := hX.2.1; have hX3 := hX.2.2.1
                    refine lv_imul hx hb dX10_walk_192 ?_
                    refine lv_topi (fun x_27 ex_27 => ?_)
                    have zx_27 : x_27.toInt = 9 * x_26.toInt := ?o94
                    case o94 =>
                      rw [ex_27]
                      refine i32_mul ?o95 rfl rfl ?o96 ?o97
                      case o95 => decide
                      case o96 => omega
                      case o97 => omega
                    refine lv_iload hx hb dX10_walk_193 (lv_at hl 0 rfl) ?_
                    refine lv_iadd hx hb dX10_walk_195 ?_
                    have rg_28 := i32_r x_27
                    have rg_29 := i32_r iv164_5
                    refine lv_topi (fun x_30 ex_30 => ?_)
                    have zx_30 : x_30.toInt = x_27.toInt + iv164_5.toInt := ?o98
                    case o98 =>
                      rw [ex_30]
                      refine i32_add rfl rfl ?o99 ?o100
                      case o99 => omega
                      case o100 => omega
                    refine hx_iald hx hb hW hT (gqhm.S hM) tt_114 rfl ⟨?o101, ?o102⟩ dX10_walk_196 (fun x_31 ex_31 lx_31 ux_31 => ?_)
                    case o101 => omega
                    case o102 => omega
                    have ax_31 : x_31 = ia9_qhm x_30.toNatClampNeg := ex_31.trans (congrFun nia9_qhm _)
                    have hh : x_31.toInt = (ia9_qhm (9 * (iv157_2.toInt - hx_p2 iv164_5.toInt) + iv164_5.toInt).toNat).toInt := (congrArg Int32.toInt ax_31).trans (congrArg (fun z => (ia9_qhm z).toInt) (by unfold Int32.toNatClampNeg; omega))
                    have hdd := vi9_0.1 (iv157_2.toInt - hx_p2 iv164_5.toInt) iv164_5.toInt ?o103 ?o104 ?o105 ?o106
                    case o103 => omega
                    case o104 => omega
                    case o105 => omega
                    case o106 => omega
                    have hdd1 := hdd.1; have hdd2 := hdd.2.1
                    refine lv_iadd hx hb dX10_walk_197 ?_
                    have rg_32 := i32_r r_22
                    have rg_33 := i32_r x_31
                    refine lv_topi (fun x_34 ex_34 => ?_)
                    have zx_34 : x_34.toInt = r_22.toInt + x_31.toInt := ?o107
                    case o107 =>
                      rw [ex_34]
                      refine i32_add rfl rfl ?o108 ?o109
                      case o108 => omega
                      case o109 => omega
                    refine lv_aload_n hx hb dX10_walk_198 rfl (lv_at hl 5 rfl) ?_
                    refine hk_getr hx hb hts hC_10 hown hW (gx.S hM) tt_10 94 ?o110 rfl kw_1237 ⟨rfl, rfl, rfl⟩ ((hM.o gx trivial rfl).2.trans f_x_94) dX10_walk_199 ?_
                    case o110 => decide
                    refine lv_bipush (v := 9) hx hb dX10_walk_202 ?o111 ?_
                    case o111 => decide
                    refine lv_iload_n hx hb dX10_walk_204 rfl (lv_at hl 3 rfl) ?_
                    refine lv_imul hx hb dX10_walk_205 ?_
                    refine lv_topi (fun x_35 ex_35 => ?_)
                    have zx_35 : x_35.toInt = 9 * iv157_2.toInt := ?o112
                    case o112 =>
                      rw [ex_35]
                      refine i32_mul ?o113 rfl rfl ?o114 ?o115
                      case o113 => decide
                      case o114 => omega
                      case o115 => omega
                    refine lv_iload_n hx hb dX10_walk_206 rfl (lv_at hl 2 rfl) ?_
                    refine lv_iadd hx hb dX10_walk_207 ?_
                    have rg_36 := i32_r x_35
                    have rg_37 := i32_r iv157_3
                    refine lv_topi (fun x_38 ex_38 => ?_)
                    have zx_38 : x_38.toInt = x_35.toInt + iv157_3.toInt := ?o116
                    case o116 =>
                      rw [ex_38]
                      refine i32_add rfl rfl ?o117 ?o118
                      case o117 => omega
                      case o118 => omega
                    refine hx_iald hx hb hW hT (gqhm.S hM) tt_114 rfl ⟨?o119, ?o120⟩ dX10_walk_208 (fun x_39 ex_39 lx_39 ux_39 => ?_)
                    case o119 => omega
                    case o120 => omega
                    have ax_39 : x_39 = ia9_qhm x_38.toNatClampNeg := ex_39.trans (congrFun nia9_qhm _)
                    have hv : x_39.toInt = (ia9_qhm (9 * iv157_2.toInt + iv157_3.toInt).toNat).toInt := (congrArg Int32.toInt ax_39).trans (congrArg (fun z => (ia9_qhm z).toInt) (by unfold Int32.toNatClampNeg; omega))
                    have hfr := hr_24.1
                    refine hb_icmp_eq (zx := x_34.toInt) (zy := x_39.toInt) (tgt := 218) hx hb rfl rfl dX10_walk_209 ?o121 (fun c_40 => ?_) (fun c_40 => ?_)
                    case o121 => decide
                    · skip
                      have hsum : (hx_fr lf agf dxf dyf n0.toInt) iv157_3.toInt iv164_5.toInt + hx_HM ia9_qhm (iv157_2.toInt - hx_p2 iv164_5.toInt) iv164_5.toInt = hx_HM ia9_qhm iv157_2.toInt iv157_3.toInt := ?o122
                      case o122 =>
                        unfold hx_HM
                        rw [← hfr, ← hh, ← hv]
                        omega
                      refine lv_aload_n hx hb dX10_walk_218 rfl (lv_at hl 5 rfl) ?_
                      refine hk_getr hx hb hts hC_10 hown hW (gx.S hM) tt_10 93 ?o123 rfl kw_1236 ⟨rfl, rfl, rfl⟩ ((hM.o gx trivial rfl).2.trans f_x_93) dX10_walk_219 ?_
                      case o123 => decide
                      refine lv_aload_n hx hb dX10_walk_222 rfl (lv_at hl 5 rfl) ?_
                      refine hk_geti hx hb hts hC_10 hown hW (gx.S hM) tt_10 92 ?o124 rfl kw_1235 ⟨rfl, rfl, rfl⟩ ffw157_x_92 dX10_walk_223 ?_
                      case o124 => decide
                      refine lv_aload_n hx hb dX10_walk_226 rfl (lv_at hl 5 rfl) ?_
                      refine hk_getr hx hb hts hC_10 hown hW (gx.S hM) tt_10 91 ?o125 rfl kw_1234 ⟨rfl, rfl, rfl⟩ ((hM.o gx trivial rfl).2.trans f_x_91) dX10_walk_227 ?_
                      case o125 => decide
                      refine lv_iload hx hb dX10_walk_230 (lv_at hl 0 rfl) ?_
                      refine hx_iald hx hb hW hT (gqls.S hM) tt_112 rfl ⟨?o126, ?o127⟩ dX10_walk_232 (fun x_41 ex_41 lx_41 ux_41 => ?_)
                      case o126 => omega
                      case o127 => omega
                      have ax_41 : x_41 = lf iv164_5.toNatClampNeg := ex_41.trans (congrFun (hx_afS hM gqls rfl af_qls) _)
                      have nia157_qwdO := nia157_qwd
                      refine hx_iast hx hb hW hT (hx_S.rf (M := [(113, 0)])) (gqwd.S hM) tt_113 rfl ⟨?o128, ?o129⟩ rfl ⟨?o130, ?o131⟩ (List.mem_singleton.mpr rfl) dX10_walk_233 (fun H locs h_42 eh_42 hW hT hs => ?_)
                      case o128 => omega
                      case o129 => omega
                      case o130 => omega
                      case o131 => omega
                      replace f_x_90 := (hs.o (gx.S hM) trivial rfl).1.trans f_x_90
                      replace ffw157_x_92 := (hs.o (gx.S hM) trivial rfl).1.trans ffw157_x_92
                      replace nia9_qhm : h_42.2.1 qhm = ia9_qhm := (funext fun j => (hs.a (gqhm.S hM) rfl j).1).trans nia9_qhm
                      replace ex_31 := ex_31.trans (hs.a (gqhm.S hM) rfl _).1.symm
                      replace ex_39 := ex_39.trans (hs.a (gqhm.S hM) rfl _).1.symm
                      replace ex_41 := ex_41.trans (hs.a (gqls.S hM) rfl _).1.symm
                      replace hM := hM.tr (hs.mono ?o132)
                      case o132 => decide
                      obtain ⟨fa_43, dfa_43⟩ : ∃ g : Nat → Int32, g = hx_up ia157_qwd fw157_x_92.toNatClampNeg x_41 := ⟨_, rfl⟩
                      have nfa_43 : h_42.2.1 qwd = fa_43 := ?o133
                      case o133 =>
                        rw [eh_42, dfa_43, ← nia157_qwdO]
                        exact hx_pi_fun _ _ _ _
                      refine lv_aload_n hx hb dX10_walk_234 rfl (lv_at hl 5 rfl) ?_
                      refine lv_dup hx hb dX10_walk_235 rfl ?_
                      refine hk_geti hx hb hts hC_10 hown hW (gx.S hM) tt_10 92 ?o134 rfl kw_1235 ⟨rfl, rfl, rfl⟩ ffw157_x_92 dX10_walk_236 ?_
                      case o134 => decide
                      refine lv_iconst (v := 1) hx hb dX10_walk_239 ?o135 ?_
                      case o135 => decide
                      refine lv_iadd hx hb dX10_walk_240 ?_
                      have rg_44 := i32_r fw157_x_92
                      refine lv_topi (fun x_45 ex_45 => ?_)
                      have zx_45 : x_45.toInt = fw157_x_92.toInt + 1 := ?o136
                      case o136 =>
                        rw [ex_45]
                        refine i32_add rfl ?o137 ?o138 ?o139
                        case o137 => decide
                        case o138 => omega
                        case o139 => omega
                      refine hx_puti hx hb hts hC_10 hown hW hT (hx_S.rf (M := [(10, 92)])) (gx.S hM) tt_10 92 ?o140 rfl kw_1235 ⟨rfl, rfl, rfl⟩ rfl (x := x_45) ⟨?o141, ?o142⟩ rfl rfl rfl (List.mem_singleton.mpr rfl) dX10_walk_241 (fun H locs h_46 eh_46 hW hT hs => ?_)
                      case o140 => decide
                      case o141 => omega
                      case o142 => omega
                      replace f_x_90 := (hs.o (gx.S hM) trivial rfl).1.trans f_x_90
                      replace nia9_qhm : h_46.2.1 qhm = ia9_qhm := (funext fun j => (hs.a (gqhm.S hM) rfl j).1).trans nia9_qhm
                      replace nfa_43 : h_46.2.1 qwd = fa_43 := (funext fun j => (hs.a (gqwd.S hM) rfl j).1).trans nfa_43
                      replace ex_31 := ex_31.trans (hs.a (gqhm.S hM) rfl _).1.symm
                      replace ex_39 := ex_39.trans (hs.a (gqhm.S hM) rfl _).1.symm
                      replace ex_41 := ex_41.trans (hs.a (gqls.S hM) rfl _).1.symm
                      replace hM := hM.tr (hs.mono ?o143)
                      case o143 => decide
                      have f_47 : h_46.2.1 x 92 = x_45 := ?o144
                      case o144 =>
                        rw [eh_46]
                        exact hx_pi_at _ _ _ _
                      refine lv_iload_n hx hb dX10_walk_244 rfl (lv_at hl 3 rfl) ?_
                      refine lv_iconst (v := 1) hx hb dX10_walk_245 ?o145 ?_
                      case o145 => decide
                      refine lv_iload hx hb dX10_walk_246 (lv_at hl 0 rfl) ?_
                      refine lv_ishl hx hb dX10_walk_248 ?_
                      refine lv_topi (fun x_48 ex_48 => ?_)
                      have zx_48 : 1 ≤ x_48.toInt ∧ x_48.toInt ≤ 128 := ?o146
                      case o146 =>
                        rw [ex_48]
                        refine hx_shl7 ?o147 ?o148
                        case o147 => omega
                        case o148 => omega
                      refine lv_ixor hx hb dX10_walk_249 ?_
                      refine lv_topi (fun x_49 ex_49 => ?_)
                      have hX := hbits.2.2.2 hbt
                      rw [← ex_48, ← ex_49] at hX
                      have hX1 := hX.1; have hX2 := hX.2.1; have hX3 := hX.2.2.1
                      have hpcX : hx_pc x_49.toInt = hx_pc iv157_2.toInt - 1 := ?o149
                      case o149 =>
                        rw [hX.1]
                        exact hX.2.2.2
                      refine lv_istore_n (lv' := [(2, .int x_49), (5, .int iv164_5), (4, .int x_9), (3, .int iv157_3), (1, .int x_1), (0, .ref x)]) hx hb dX10_walk_250 rfl hl ?o150 rfl (fun ls hl => ?_)
                      case o150 => decide
                      refine lv_iload hx hb dX10_walk_251 (lv_at hl 1 rfl) ?_
                      refine lv_istore_n (lv' := [(3, .int iv164_5), (2, .int x_49), (5, .int iv164_5), (4, .int x_9), (1, .int x_1), (0, .ref x)]) hx hb dX10_walk_253 rfl hl ?o151 rfl (fun ls hl => ?_)
                      case o151 => decide
                      refine lv_goto (tgt := 157) hx hb dX10_walk_254 ?o152 ?_
                      case o152 => decide
                      refine ih157 x_49 iv164_5 x_45 fa_43 _ _ L_20 h_46 ?o153 ?o154 ?o155 ?o156 ?o157 ?o158 ?o159 ?o160 ?o161 (hx_wj_s vi157_3 ?o162 ⟨?o163, ?o164, hbt, hsum, vi164_1, hX1, rfl⟩ dfa_43 (by unfold Int32.toNatClampNeg; omega) (by rw [ax_41]; rfl) ?o165) ls ?o166 hW hT hM f_47 f_x_90 nfa_43 nia9_qhm (lv_sub hl [3, 0, 1, 4, 5] rfl)
                      case o153 => omega
                      case o154 => omega
                      case o155 => omega
                      case o156 => omega
                      case o157 => omega
                      case o158 => omega
                      case o159 => omega
                      case o160 => omega
                      case o161 => omega
                      case o162 => omega
                      case o163 => omega
                      case o164 => omega
                      case o165 => omega
                      case o166 => omega
                    · skip
                      have hne : iv164_5.toInt ≠ ks := fun z => by have q := hk3; rw [← z] at q; omega
                      obtain ⟨x_50, ex_50⟩ : ∃ y : Int32, y = iv164_5 + Int32.ofInt 1 := ⟨_, rfl⟩
                      have zx_50 : x_50.toInt = iv164_5.toInt + (1) := ?o167
                      case o167 =>
                        rw [ex_50]
                        refine i32_add rfl ?o168 ?o169 ?o170
                        case o168 => decide
                        case o169 => omega
                        case o170 => omega
                      refine lv_iinc (v := x_50) (lv' := [(5, .int x_50), (4, .int x_9), (3, .int iv157_3), (2, .int iv157_2), (1, .int x_1), (0, .ref x)]) hx hb dX10_walk_212 hl (k := 0) rfl ex_50.symm ?o171 rfl (fun ls hl => ?_)
                      case o171 => decide
                      refine lv_goto (tgt := 164) hx hb dX10_walk_215 ?o172 ?_
                      case o172 => decide
                      refine ih164 x_50 _ _ L_20 h_21 ?o173 ?o174 ?o175 (fun k' h0 h1 hb => by rcases (show k' < iv164_5.toInt ∨ k' = iv164_5.toInt by omega) with z | z; exact vi164_1 k' h0 z hb; subst z; exact (fun w => by unfold hx_HM at w; rw [← hfr, ← hh, ← hv] at w; omega)) ls ?o176 hW hT hM f_x_90 ffw157_x_92 nia9_qhm nia157_qwd (lv_sub hl [0, 1, 2, 3, 4, 5] rfl)
                      case o173 => omega
                      case o174 => omega
                      case o175 => omega
                      case o176 => omega
              have zk_0 : (0 : Int32).toInt = 0 := ?o177
              case o177 => decide
              refine loop164 8 (0 : Int32) _ _ hL1 hl1 ?o178 ?o179 ?o180 (fun k' h0 h1 => absurd h1 ?o181) ls ?o182 hW hT hM f_x_90 ffw157_x_92 nia9_qhm nia157_qwd hl
              case o178 => decide
              case o179 => decide
              case o180 => omega
              case o181 => omega
              case o182 => omega
        have zk_0 : (0 : Int32).toInt = 0 := ?o183
        case o183 => decide
        refine loop157 256 x_4 n0 (0 : Int32) wd0 _ _ hL1 h_10 ?o184 ?o185 ?o186 ?o187 ?o188 ?o189 ?o190 ?o191 ?o192 (hx_wj_i ?o193 ?o194 ?o195 (by rw [hv0, hl0, show n0.toInt = n0.toInt by omega])) ls ?o196 hW hT hM f_11 f_x_90 af_qwd nia9_qhm hl
        case o184 => omega
        case o185 => omega
        case o186 => omega
        case o187 => omega
        case o188 => decide
        case o189 => decide
        case o190 => omega
        case o191 => omega
        case o192 => omega
        case o193 => omega
        case o194 => omega
        case o195 => omega
        case o196 => omega
      · skip
        refine lv_iconst (v := 0) hx hb dX10_walk_14 ?o197 ?_
        case o197 => decide
        refine lv_istore_n (lv' := [(3, .int (0 : Int32)), (2, .int iv9_2), (1, .int x_1), (0, .ref x)]) hx hb dX10_walk_15 rfl hl ?o198 rfl (fun ls hl => ?_)
        case o198 => decide
        have loop16 : ∀ (n16 : Nat) (iv16_3 : Int32) (ia16_qhm : Nat → Int32) (H : Heap) (locs : List Loc) (hL1 : List Nat) (hl1 : hx_h), 0 ≤ iv16_3.toInt → iv16_3.toInt ≤ 9 → (hx_D (hx_fr lf agf dxf dyf n0.toInt) n0.toInt ia16_qhm iv9_2.toInt iv16_3.toInt) → ∀ (ls : Array Slot), 9 - iv16_3.toInt < (n16 : Int) → hx_W T_tb (P_ty dA) (dC, dI) vwCl (hx_A L sz) s.heap hL1 hl1 s H locs → hx_T T_tb hL1 hl1 → hx_S T_tb [(10, 90), (10, 92), (113, 0), (114, 0)] L h hL1 hl1 → hl1.2.1 x 90 = n0 → hl1.2.1 qhm = ia16_qhm → hl1.2.1 qwd = wd0 → lv_has ls 6 [(3, .int iv16_3), (2, .int iv9_2), (1, .int x_1), (0, .ref x)] → W p l e ({ frames := 2, cells := 0, slots := 0, locals := 49 }) s m ([.ref x] : List Value).toArray below meth c H locs 0 0 (MQ below (va_Qi (fun (r : Int32) (u : List Nat × hx_h) => (∃ (ln1 : Int32) (wm1 : Int32) (wd1 : Nat → Int32), u.2.2.1 x 90 = ln1 ∧ u.2.2.1 x 92 = wm1 ∧ u.2.2.1 qwd = wd1 ∧ (ln1.toInt = 0 ∧ wm1.toInt = n0.toInt ∧ hx_WA (hx_fr lf agf dxf dyf n0.toInt) n0.toInt lf wd1 r.toInt)) ∧ hx_T T_tb u.1 u.2 ∧ hx_S T_tb [(10, 90), (10, 92), (113, 0), (114, 0)] L h u.1 u.2) (hx_E T_tb (P_ty dA) (dC, dI) vwCl (hx_A L sz)) (hx_A L sz)) ([.ref x] : List Value).toArray s 0 0 (hx_A L sz)) (F0 m 16 ls []) := by
          intro n16
          induction n16 with
          | zero => intro iv16_3 ia16_qhm H locs hL1 hl1 bliv16_3 buiv16_3 vi16_0 ls hn16; exfalso; omega
          | succ n16 ih16 =>
            intro iv16_3 ia16_qhm H locs hL1 hl1 bliv16_3 buiv16_3 vi16_0 ls hn16 hW hT hM f_x_90 nia16_qhm af_qwd hl
            refine lv_iload_n hx hb dX10_walk_16 rfl (lv_at hl 0 rfl) ?_
            refine lv_aload_n hx hb dX10_walk_17 rfl (lv_at hl 3 rfl) ?_
            refine hk_geti hx hb hts hC_10 hown hW (gx.S hM) tt_10 90 ?o199 rfl kw_1233 ⟨rfl, rfl, rfl⟩ f_x_90 dX10_walk_18 ?_
            case o199 => decide
            refine hb_icmp_gt (zx := iv16_3.toInt) (zy := n0.toInt) (tgt := 124) hx hb rfl rfl dX10_walk_21 ?o200 (fun c_51 => ?_) (fun c_51 => ?_)
            case o200 => decide
            · skip
              obtain ⟨x_52, ex_52⟩ : ∃ y : Int32, y = iv9_2 + Int32.ofInt 1 := ⟨_, rfl⟩
              have rg_53 := i32_r iv9_2
              have zx_52 : x_52.toInt = iv9_2.toInt + (1) := ?o201
              case o201 =>
                rw [ex_52]
                refine i32_add rfl ?o202 ?o203 ?o204
                case o202 => decide
                case o203 => omega
                case o204 => omega
              refine lv_iinc (v := x_52) (lv' := [(2, .int x_52), (3, .int iv16_3), (1, .int x_1), (0, .ref x)]) hx hb dX10_walk_124 hl (k := 1) rfl ex_52.symm ?o205 rfl (fun ls hl => ?_)
              case o205 => decide
              refine lv_goto (tgt := 9) hx hb dX10_walk_127 ?o206 ?_
              case o206 => decide
              refine ih9 x_52 ia16_qhm _ _ hL1 hl1 ?o207 ?o208 (hx_D_row vi16_0 ?o209 zx_52) ls ?o210 hW hT hM f_x_90 nia16_qhm af_qwd (lv_sub hl [0, 2, 3] rfl)
              case o207 => omega
              case o208 => omega
              case o209 => omega
              case o210 => omega
            · skip
              refine lv_iload_n hx hb dX10_walk_24 rfl (lv_at hl 1 rfl) ?_
              refine hb_if_ne (zx := iv9_2.toInt) (tgt := 40) hx hb rfl dX10_walk_25 ?o211 (fun c_54 => ?_) (fun c_54 => ?_)
              case o211 => decide
              · skip
                refine lv_ldcw (v := 1000000000) hx hb hown (hts _ kw_1678) dX10_walk_40 ?_
                refine lv_istore (lv' := [(4, .int (1000000000 : Int32)), (3, .int iv16_3), (2, .int iv9_2), (1, .int x_1), (0, .ref x)]) hx hb dX10_walk_43 hl ?o212 rfl (fun ls hl => ?_)
                case o212 => decide
                refine lv_iconst (v := 0) hx hb dX10_walk_45 ?o213 ?_
                case o213 => decide
                refine lv_istore (lv' := [(5, .int (0 : Int32)), (4, .int (1000000000 : Int32)), (3, .int iv16_3), (2, .int iv9_2), (1, .int x_1), (0, .ref x)]) hx hb dX10_walk_46 hl ?o214 rfl (fun ls hl => ?_)
                case o214 => decide
                have loop48 : ∀ (n48 : Nat) (iv48_4 iv48_5 : Int32) (H : Heap) (locs : List Loc) (hL1 : List Nat) (hl1 : hx_h), -2147483648 ≤ iv48_4.toInt → iv48_4.toInt ≤ 2147483647 → 0 ≤ iv48_5.toInt → iv48_5.toInt ≤ 8 → ((iv9_2.toInt = 0 ∧ 0 ≤ iv48_4.toInt ∧ iv48_4.toInt ≤ 198 ∧ iv48_4.toInt = (hx_fr lf agf dxf dyf n0.toInt) iv16_3.toInt n0.toInt) ∨ (iv9_2.toInt ≠ 0 ∧ hx_best (hx_fr lf agf dxf dyf n0.toInt) ia16_qhm iv9_2.toInt iv16_3.toInt iv48_5.toInt iv48_4.toInt)) → (iv48_5.toInt ≤ n0.toInt) → ∀ (ls : Array Slot), 8 - iv48_5.toInt < (n48 : Int) → hx_W T_tb (P_ty dA) (dC, dI) vwCl (hx_A L sz) s.heap hL1 hl1 s H locs → hx_T T_tb hL1 hl1 → hx_S T_tb [(10, 90), (10, 92), (113, 0), (114, 0)] L h hL1 hl1 → hl1.2.1 x 90 = n0 → hl1.2.1 qwd = wd0 → hl1.2.1 qhm = ia16_qhm → lv_has ls 6 [(5, .int iv48_5), (4, .int iv48_4), (3, .int iv16_3), (2, .int iv9_2), (1, .int x_1), (0, .ref x)] → W p l e ({ frames := 2, cells := 0, slots := 0, locals := 49 }) s m ([.ref x] : List Value).toArray below meth c H locs 0 0 (MQ below (va_Qi (fun (r : Int32) (u : List Nat × hx_h) => (∃ (ln1 : Int32) (wm1 : Int32) (wd1 : Nat → Int32), u.2.2.1 x 90 = ln1 ∧ u.2.2.1 x 92 = wm1 ∧ u.2.2.1 qwd = wd1 ∧ (ln1.toInt = 0 ∧ wm1.toInt = n0.toInt ∧ hx_WA (hx_fr lf agf dxf dyf n0.toInt) n0.toInt lf wd1 r.toInt)) ∧ hx_T T_tb u.1 u.2 ∧ hx_S T_tb [(10, 90), (10, 92), (113, 0), (114, 0)] L h u.1 u.2) (hx_E T_tb (P_ty dA) (dC, dI) vwCl (hx_A L sz)) (hx_A L sz)) ([.ref x] : List Value).toArray s 0 0 (hx_A L sz)) (F0 m 48 ls []) := by
                  intro n48
                  induction n48 with
                  | zero => intro iv48_4 iv48_5 H locs hL1 hl1 bliv48_4 buiv48_4 bliv48_5 buiv48_5 vi48_0 vi48_1 ls hn48; exfalso; omega
                  | succ n48 ih48 =>
                    intro iv48_4 iv48_5 H locs hL1 hl1 bliv48_4 buiv48_4 bliv48_5 buiv48_5 vi48_0 vi48_1 ls hn48 hW hT hM f_x_90 af_qwd nia16_qhm hl
                    refine lv_iload hx hb dX10_walk_48 (lv_at hl 0 rfl) ?_
                    refine lv_aload_n hx hb dX10_walk_50 rfl (lv_at hl 5 rfl) ?_
                    refine hk_geti hx hb hts hC_10 hown hW (gx.S hM) tt_10 90 ?o215 rfl kw_1233 ⟨rfl, rfl, rfl⟩ f_x_90 dX10_walk_51 ?_
                    case o215 => decide
                    refine hb_icmp_ge (zx := iv48_5.toInt) (zy := n0.toInt) (tgt := 105) hx hb rfl rfl dX10_walk_54 ?o216 (fun c_55 => ?_) (fun c_55 => ?_)
                    case o216 => decide
                    · skip
                      have hkn : iv48_5.toInt = n0.toInt := ?o217
                      case o217 => omega
                      have hbst : (iv9_2.toInt = 0 ∧ 0 ≤ iv48_4.toInt ∧ iv48_4.toInt ≤ 198 ∧ iv48_4.toInt = (hx_fr lf agf dxf dyf n0.toInt) iv16_3.toInt n0.toInt) ∨ (iv9_2.toInt ≠ 0 ∧ iv9_2.toInt < 2 ^ n0.toInt.toNat ∧ hx_best (hx_fr lf agf dxf dyf n0.toInt) ia16_qhm iv9_2.toInt iv16_3.toInt n0.toInt iv48_4.toInt) := vi48_0.elim (fun q => Or.inl q) (fun q => Or.inr ⟨q.1, ?o218, by have w := q.2; rw [hkn] at w; exact w⟩)
                      case o218 => omega
                      refine lv_aload_n hx hb dX10_walk_105 rfl (lv_at hl 5 rfl) ?_
                      refine hk_getr hx hb hts hC_10 hown hW (gx.S hM) tt_10 94 ?o219 rfl kw_1237 ⟨rfl, rfl, rfl⟩ ((hM.o gx trivial rfl).2.trans f_x_94) dX10_walk_106 ?_
                      case o219 => decide
                      refine lv_bipush (v := 9) hx hb dX10_walk_109 ?o220 ?_
                      case o220 => decide
                      refine lv_iload_n hx hb dX10_walk_111 rfl (lv_at hl 3 rfl) ?_
                      refine lv_imul hx hb dX10_walk_112 ?_
                      refine lv_topi (fun x_56 ex_56 => ?_)
                      have zx_56 : x_56.toInt = 9 * iv9_2.toInt := ?o221
                      case o221 =>
                        rw [ex_56]
                        refine i32_mul ?o222 rfl rfl ?o223 ?o224
                        case o222 => decide
                        case o223 => omega
                        case o224 => omega
                      refine lv_iload_n hx hb dX10_walk_113 rfl (lv_at hl 2 rfl) ?_
                      refine lv_iadd hx hb dX10_walk_114 ?_
                      have rg_57 := i32_r x_56
                      have rg_58 := i32_r iv16_3
                      refine lv_topi (fun x_59 ex_59 => ?_)
                      have zx_59 : x_59.toInt = x_56.toInt + iv16_3.toInt := ?o225
                      case o225 =>
                        rw [ex_59]
                        refine i32_add rfl rfl ?o226 ?o227
                        case o226 => omega
                        case o227 => omega
                      refine lv_iload hx hb dX10_walk_115 (lv_at hl 1 rfl) ?_
                      have nia16_qhmO := nia16_qhm
                      refine hx_iast hx hb hW hT (hx_S.rf (M := [(114, 0)])) (gqhm.S hM) tt_114 rfl ⟨?o228, ?o229⟩ rfl (i32_r _) (List.mem_singleton.mpr rfl) dX10_walk_117 (fun H locs h_60 eh_60 hW hT hs => ?_)
                      case o228 => omega
                      case o229 => omega
                      replace f_x_90 := (hs.o (gx.S hM) trivial rfl).1.trans f_x_90
                      replace af_qwd : h_60.2.1 qwd = wd0 := (funext fun j => (hs.a (gqwd.S hM) rfl j).1).trans af_qwd
                      replace hM := hM.tr (hs.mono ?o230)
                      case o230 => decide
                      obtain ⟨fa_61, dfa_61⟩ : ∃ g : Nat → Int32, g = hx_up ia16_qhm x_59.toNatClampNeg iv48_4 := ⟨_, rfl⟩
                      have nfa_61 : h_60.2.1 qhm = fa_61 := ?o231
                      case o231 =>
                        rw [eh_60, dfa_61, ← nia16_qhmO]
                        exact hx_pi_fun _ _ _ _
                      obtain ⟨x_62, ex_62⟩ : ∃ y : Int32, y = iv16_3 + Int32.ofInt 1 := ⟨_, rfl⟩
                      have zx_62 : x_62.toInt = iv16_3.toInt + (1) := ?o232
                      case o232 =>
                        rw [ex_62]
                        refine i32_add rfl ?o233 ?o234 ?o235
                        case o233 => decide
                        case o234 => omega
                        case o235 => omega
                      refine lv_iinc (v := x_62) (lv' := [(3, .int x_62), (5, .int iv48_5), (4, .int iv48_4), (2, .int iv9_2), (1, .int x_1), (0, .ref x)]) hx hb dX10_walk_118 hl (k := 2) rfl ex_62.symm ?o236 rfl (fun ls hl => ?_)
                      case o236 => decide
                      refine lv_goto (tgt := 16) hx hb dX10_walk_121 ?o237 ?_
                      case o237 => decide
                      refine ih16 x_62 fa_61 _ _ hL1 h_60 ?o238 ?o239 (hx_D_put vi16_0 ?o240 ?o241 ?o242 ?o243 ?o244 ?o245 rfl dfa_61 zx_62 hbst) ls ?o246 hW hT hM f_x_90 nfa_61 af_qwd (lv_sub hl [0, 3, 4, 5] rfl)
                      case o238 => omega
                      case o239 => omega
                      case o240 => omega
                      case o241 => omega
                      case o242 => omega
                      case o243 => omega
                      case o244 => omega
                      case o245 => omega
                      case o246 => omega
                    · skip
                      have hbits := hx_bits (L := iv9_2) (K := iv48_5) ?o247 ?o248 ?o249 ?o250
                      case o247 => omega
                      case o248 => omega
                      case o249 => omega
                      case o250 => omega
                      refine lv_iload_n hx hb dX10_walk_57 rfl (lv_at hl 3 rfl) ?_
                      refine lv_iload hx hb dX10_walk_58 (lv_at hl 0 rfl) ?_
                      refine lv_ishr hx hb dX10_walk_60 ?_
                      refine lv_topi (fun x_63 ex_63 => ?_)
                      refine lv_iconst (v := 1) hx hb dX10_walk_61 ?o251 ?_
                      case o251 => decide
                      refine lv_iand hx hb dX10_walk_62 ?_
                      refine lv_topi (fun x_64 ex_64 => ?_)
                      have zx_64 : 0 ≤ x_64.toInt ∧ x_64.toInt ≤ 1 := ?o252
                      case o252 =>
                        rw [ex_64]
                        refine hx_andR ?o253 ?o254
                        case o253 => decide
                        case o254 => decide
                      refine lv_iconst (v := 1) hx hb dX10_walk_63 ?o255 ?_
                      case o255 => decide
                      refine hb_icmp_ne (zx := x_64.toInt) (zy := 1) (tgt := 99) hx hb rfl ?o256 dX10_walk_64 ?o257 (fun c_65 => ?_) (fun c_65 => ?_)
                      case o256 => decide
                      case o257 => decide
                      · skip
                        have hbf := hx_bit_no hbits.1 ex_63 ex_64 ?o258
                        case o258 => omega
                        obtain ⟨x_66, ex_66⟩ : ∃ y : Int32, y = iv48_5 + Int32.ofInt 1 := ⟨_, rfl⟩
                        have rg_67 := i32_r iv48_5
                        have zx_66 : x_66.toInt = iv48_5.toInt + (1) := ?o259
                        case o259 =>
                          rw [ex_66]
                          refine i32_add rfl ?o260 ?o261 ?o262
                          case o260 => decide
                          case o261 => omega
                          case o262 => omega
                        refine lv_iinc (v := x_66) (lv' := [(5, .int x_66), (4, .int iv48_4), (3, .int iv16_3), (2, .int iv9_2), (1, .int x_1), (0, .ref x)]) hx hb dX10_walk_99 hl (k := 0) rfl ex_66.symm ?o263 rfl (fun ls hl => ?_)
                        case o263 => decide
                        refine lv_goto (tgt := 48) hx hb dX10_walk_102 ?o264 ?_
                        case o264 => decide
                        refine ih48 iv48_4 x_66 _ _ hL1 hl1 (i32_r _).1 (i32_r _).2 ?o265 ?o266 (vi48_0.elim (fun q => Or.inl q) (fun q => Or.inr ⟨q.1, hx_best_no q.2 hbf zx_66⟩)) ?o267 ls ?o268 hW hT hM f_x_90 af_qwd nia16_qhm (lv_sub hl [0, 1, 2, 3, 4, 5] rfl)
                        case o265 => omega
                        case o266 => omega
                        case o267 => omega
                        case o268 => omega
                      · skip
                        have hbt := hx_bit_yes hbits.1 ex_63 ex_64 ?o269
                        case o269 => omega
                        refine lv_iload hx hb dX10_walk_67 (lv_at hl 1 rfl) ?_
                        refine lv_aload_n hx hb dX10_walk_69 rfl (lv_at hl 5 rfl) ?_
                        refine lv_iload_n hx hb dX10_walk_70 rfl (lv_at hl 2 rfl) ?_
                        refine lv_iload hx hb dX10_walk_71 (lv_at hl 0 rfl) ?_
                        refine hx_goi (hx_runV (As := [.int iv16_3, .int iv48_5]) (rest := [.int iv48_4]) ⟨hx, hb, hml, hown, hts⟩ hW (gx.S hM) tt_10 (T := TX10) (N := 98) rfl (t_X10_far_2 l dC dI dA hL1 hl1 H.size x iv16_3 iv48_5 hT (gx.S hM) qls (gqls.S hM) ((hM.o gx trivial rfl).2.trans f_x_91) qag (gqag.S hM) ((hM.o gx trivial rfl).2.trans f_x_38) qdx (gqdx.S hM) ((hM.o gx trivial rfl).2.trans f_x_24) qdy (gqdy.S hM) ((hM.o gx trivial rfl).2.trans f_x_25) lf (hx_afS hM gqls rfl af_qls) agf (hx_afS hM gqag rfl af_qag) dxf (hx_afS hM gqdx rfl af_qdx) dyf (hx_afS hM gqdy rfl af_qdy) n0 f_x_90 ⟨?o270, ?o271⟩ ⟨?o272, ?o273⟩) (cwV 2 hts (hx_gV kw_1725 kw_1722 kw_1724 kw_90 kw_103) rfl rfl rfl (by decide +kernel) ⟨Nat.le_of_ble_eq_true rfl, Nat.le_of_ble_eq_true rfl⟩) rfl hl.1 rfl (Nat.le_of_ble_eq_true rfl) dX10_walk_73 ⟨Nat.le_of_ble_eq_true rfl, Nat.le_of_ble_eq_true rfl⟩) hW (fun r_70 L_68 h_69 H locs p_71 hW => ?_)
                        case o270 => omega
                        case o271 => omega
                        case o272 => omega
                        case o273 => omega
                        obtain ⟨hr_72, hT, hs⟩ := p_71
                        replace hT : hx_T T_tb L_68 h_69 := hT
                        replace hs : hx_S T_tb [] hL1 hl1 L_68 h_69 := hs
                        replace f_x_90 := (hs.o (gx.S hM) trivial rfl).1.trans f_x_90
                        replace af_qwd : h_69.2.1 qwd = wd0 := (funext fun j => (hs.a (gqwd.S hM) rfl j).1).trans af_qwd
                        replace nia16_qhm : h_69.2.1 qhm = ia16_qhm := (funext fun j => (hs.a (gqhm.S hM) rfl j).1).trans nia16_qhm
                        replace hM := hM.tr (hs.mono ?o274)
                        case o274 => decide
                        refine lv_aload_n hx hb dX10_walk_76 rfl (lv_at hl 5 rfl) ?_
                        refine hk_getr hx hb hts hC_10 hown hW (gx.S hM) tt_10 94 ?o275 rfl kw_1237 ⟨rfl, rfl, rfl⟩ ((hM.o gx trivial rfl).2.trans f_x_94) dX10_walk_77 ?_
                        case o275 => decide
                        refine lv_bipush (v := 9) hx hb dX10_walk_80 ?o276 ?_
                        case o276 => decide
                        refine lv_iload_n hx hb dX10_walk_82 rfl (lv_at hl 3 rfl) ?_
                        refine lv_iconst (v := 1) hx hb dX10_walk_83 ?o277 ?_
                        case o277 => decide
                        refine lv_iload hx hb dX10_walk_84 (lv_at hl 0 rfl) ?_
                        refine lv_ishl hx hb dX10_walk_86 ?_
                        refine lv_topi (fun x_73 ex_73 => ?_)
                        have zx_73 : 1 ≤ x_73.toInt ∧ x_73.toInt ≤ 128 := ?o278
                        case o278 =>
                          rw [ex_73]
                          refine hx_shl7 ?o279 ?o280
                          case o279 => omega
                          case o280 => omega
                        refine lv_ixor hx hb dX10_walk_87 ?_
                        refine lv_topi (fun x_74 ex_74 => ?_)
                        have hX := hbits.2.2.2 hbt
                        rw [← ex_73, ← ex_74] at hX
                        have hX1 := hX.1; have hX2 := hX.2.1; have hX3 := hX.2.2.1
                        refine lv_imul hx hb dX10_walk_88 ?_
                        refine lv_topi (fun x_75 ex_75 => ?_)
                        have zx_75 : x_75.toInt = 9 * x_74.toInt := ?o281
                        case o281 =>
                          rw [ex_75]
                          refine i32_mul ?o282 rfl rfl ?o283 ?o284
                          case o282 => decide
                          case o283 => omega
                          case o284 => omega
                        refine lv_iload hx hb dX10_walk_89 (lv_at hl 0 rfl) ?_
                        refine lv_iadd hx hb dX10_walk_91 ?_
                        have rg_76 := i32_r x_75
                        have rg_77 := i32_r iv48_5
                        refine lv_topi (fun x_78 ex_78 => ?_)
                        have zx_78 : x_78.toInt = x_75.toInt + iv48_5.toInt := ?o285
                        case o285 =>
                          rw [ex_78]
                          refine i32_add rfl rfl ?o286 ?o287
                          case o286 => omega
                          case o287 => omega
                        refine hx_iald hx hb hW hT (gqhm.S hM) tt_114 rfl ⟨?o288, ?o289⟩ dX10_walk_92 (fun x_79 ex_79 lx_79 ux_79 => ?_)
                        case o288 => omega
                        case o289 => omega
                        have ax_79 : x_79 = ia16_qhm x_78.toNatClampNeg := ex_79.trans (congrFun nia16_qhm _)
                        have hh : x_79.toInt = (ia16_qhm (9 * (iv9_2.toInt - hx_p2 iv48_5.toInt) + iv48_5.toInt).toNat).toInt := (congrArg Int32.toInt ax_79).trans (congrArg (fun z => (ia16_qhm z).toInt) (by unfold Int32.toNatClampNeg; omega))
                        have hdd := vi16_0.1 (iv9_2.toInt - hx_p2 iv48_5.toInt) iv48_5.toInt ?o290 ?o291 ?o292 ?o293
                        case o290 => omega
                        case o291 => omega
                        case o292 => omega
                        case o293 => omega
                        have hdd1 := hdd.1; have hdd2 := hdd.2.1
                        refine lv_iadd hx hb dX10_walk_93 ?_
                        have rg_80 := i32_r r_70
                        have rg_81 := i32_r x_79
                        refine lv_topi (fun x_82 ex_82 => ?_)
                        have zx_82 : x_82.toInt = r_70.toInt + x_79.toInt := ?o294
                        case o294 =>
                          rw [ex_82]
                          refine i32_add rfl rfl ?o295 ?o296
                          case o295 => omega
                          case o296 => omega
                        refine hx_goi (hx_runS (As := [.int iv48_4, .int x_82]) (rest := []) ⟨hx, hb, hml, hown, hts⟩ hW (t_X10_lesser_2 l dC dI dA L_68 h_69 H.size iv48_4 x_82 hT) (va_cwS 2 hts (hx_gS kw_1705 kw_1703 kw_1704 kw_103) rfl rfl rfl (by decide +kernel) ⟨Nat.le_of_ble_eq_true rfl, Nat.le_of_ble_eq_true rfl⟩) rfl hl.1 rfl (Nat.le_of_ble_eq_true rfl) dX10_walk_94 ⟨Nat.le_of_ble_eq_true rfl, Nat.le_of_ble_eq_true rfl⟩) hW (fun r_85 L_83 h_84 H locs p_86 hW => ?_)
                        obtain ⟨hr_87, hT, hs⟩ := p_86
                        replace hT : hx_T T_tb L_83 h_84 := hT
                        replace hs : hx_S T_tb [] L_68 h_69 L_83 h_84 := hs
                        replace f_x_90 := (hs.o (gx.S hM) trivial rfl).1.trans f_x_90
                        replace af_qwd : h_84.2.1 qwd = wd0 := (funext fun j => (hs.a (gqwd.S hM) rfl j).1).trans af_qwd
                        replace nia16_qhm : h_84.2.1 qhm = ia16_qhm := (funext fun j => (hs.a (gqhm.S hM) rfl j).1).trans nia16_qhm
                        replace ex_79 := ex_79.trans (hs.a (gqhm.S hM) rfl _).1.symm
                        replace hM := hM.tr (hs.mono ?o297)
                        case o297 => decide
                        refine lv_istore (lv' := [(4, .int r_85), (5, .int iv48_5), (3, .int iv16_3), (2, .int iv9_2), (1, .int x_1), (0, .ref x)]) hx hb dX10_walk_97 hl ?o298 rfl (fun ls hl => ?_)
                        case o298 => decide
                        have hcand : x_82.toInt = (hx_fr lf agf dxf dyf n0.toInt) iv16_3.toInt iv48_5.toInt + (ia16_qhm (9 * (iv9_2.toInt - hx_p2 iv48_5.toInt) + iv48_5.toInt).toNat).toInt := ?o299
                        case o299 => rw [zx_82, hr_72.1, hh]
                        have hF0 : 0 ≤ (hx_fr lf agf dxf dyf n0.toInt) iv16_3.toInt iv48_5.toInt := ?o300
                        case o300 =>
                          rw [← hr_72.1]
                          exact hr_72.2.1
                        have hF1 : (hx_fr lf agf dxf dyf n0.toInt) iv16_3.toInt iv48_5.toInt ≤ 198 := ?o301
                        case o301 =>
                          rw [← hr_72.1]
                          exact hr_72.2.2
                        obtain ⟨x_88, ex_88⟩ : ∃ y : Int32, y = iv48_5 + Int32.ofInt 1 := ⟨_, rfl⟩
                        have zx_88 : x_88.toInt = iv48_5.toInt + (1) := ?o302
                        case o302 =>
                          rw [ex_88]
                          refine i32_add rfl ?o303 ?o304 ?o305
                          case o303 => decide
                          case o304 => omega
                          case o305 => omega
                        refine lv_iinc (v := x_88) (lv' := [(5, .int x_88), (4, .int r_85), (3, .int iv16_3), (2, .int iv9_2), (1, .int x_1), (0, .ref x)]) hx hb dX10_walk_99 hl (k := 1) rfl ex_88.symm ?o306 rfl (fun ls hl => ?_)
                        case o306 => decide
                        refine lv_goto (tgt := 48) hx hb dX10_walk_102 ?o307 ?_
                        case o307 => decide
                        refine ih48 r_85 x_88 _ _ L_83 h_84 (i32_r _).1 (i32_r _).2 ?o308 ?o309 (vi48_0.elim (fun q => by exfalso; have hl0 : iv9_2.toInt = 0 := q.1; omega) (fun q => Or.inr ⟨q.1, hx_best_yes vi16_0 q.2 hbt hX2 hX3 ?o310 ?o311 ?o312 hF0 hF1 hcand (hr_87.elim (fun w => Or.inl ⟨congrArg Int32.toInt w.1, w.2⟩) (fun w => Or.inr ⟨congrArg Int32.toInt w.1, w.2⟩)) zx_88⟩)) ?o313 ls ?o314 hW hT hM f_x_90 af_qwd nia16_qhm (lv_sub hl [0, 1, 2, 3, 4, 5] rfl)
                        case o308 => omega
                        case o309 => omega
                        case o310 => omega
                        case o311 => omega
                        case o312 => omega
                        case o313 => omega
                        case o314 => omega
                have zk_1000000000 : (1000000000 : Int32).toInt = 1000000000 := ?o315
                case o315 => decide
                have zk_0 : (0 : Int32).toInt = 0 := ?o316
                case o316 => decide
                refine loop48 9 (1000000000 : Int32) (0 : Int32) _ _ hL1 hl1 ?o317 ?o318 ?o319 ?o320 (Or.inr ⟨?o321, hx_best0⟩) ?o322 ls ?o323 hW hT hM f_x_90 af_qwd nia16_qhm hl
                case o317 => decide
                case o318 => decide
                case o319 => decide
                case o320 => decide
                case o321 => omega
                case o322 => omega
                case o323 => omega
              · skip
                refine lv_aload_n hx hb dX10_walk_28 rfl (lv_at hl 3 rfl) ?_
                refine lv_iload_n hx hb dX10_walk_29 rfl (lv_at hl 0 rfl) ?_
                refine lv_aload_n hx hb dX10_walk_30 rfl (lv_at hl 3 rfl) ?_
                refine hk_geti hx hb hts hC_10 hown hW (gx.S hM) tt_10 90 ?o324 rfl kw_1233 ⟨rfl, rfl, rfl⟩ f_x_90 dX10_walk_31 ?_
                case o324 => decide
                refine hx_goi (hx_runV (As := [.int iv16_3, .int n0]) (rest := []) ⟨hx, hb, hml, hown, hts⟩ hW (gx.S hM) tt_10 (T := TX10) (N := 98) rfl (t_X10_far_2 l dC dI dA hL1 hl1 H.size x iv16_3 n0 hT (gx.S hM) qls (gqls.S hM) ((hM.o gx trivial rfl).2.trans f_x_91) qag (gqag.S hM) ((hM.o gx trivial rfl).2.trans f_x_38) qdx (gqdx.S hM) ((hM.o gx trivial rfl).2.trans f_x_24) qdy (gqdy.S hM) ((hM.o gx trivial rfl).2.trans f_x_25) lf (hx_afS hM gqls rfl af_qls) agf (hx_afS hM gqag rfl af_qag) dxf (hx_afS hM gqdx rfl af_qdx) dyf (hx_afS hM gqdy rfl af_qdy) n0 f_x_90 ⟨?o325, ?o326⟩ ⟨?o327, ?o328⟩) (cwV 2 hts (hx_gV kw_1725 kw_1722 kw_1724 kw_90 kw_103) rfl rfl rfl (by decide +kernel) ⟨Nat.le_of_ble_eq_true rfl, Nat.le_of_ble_eq_true rfl⟩) rfl hl.1 rfl (Nat.le_of_ble_eq_true rfl) dX10_walk_34 ⟨Nat.le_of_ble_eq_true rfl, Nat.le_of_ble_eq_true rfl⟩) hW (fun r_91 L_89 h_90 H locs p_92 hW => ?_)
                case o325 => omega
                case o326 => omega
                case o327 => omega
                case o328 => omega
                obtain ⟨hr_93, hT, hs⟩ := p_92
                replace hT : hx_T T_tb L_89 h_90 := hT
                replace hs : hx_S T_tb [] hL1 hl1 L_89 h_90 := hs
                replace f_x_90 := (hs.o (gx.S hM) trivial rfl).1.trans f_x_90
                replace af_qwd : h_90.2.1 qwd = wd0 := (funext fun j => (hs.a (gqwd.S hM) rfl j).1).trans af_qwd
                replace nia16_qhm : h_90.2.1 qhm = ia16_qhm := (funext fun j => (hs.a (gqhm.S hM) rfl j).1).trans nia16_qhm
                replace hM := hM.tr (hs.mono ?o329)
                case o329 => decide
                refine lv_goto (tgt := 43) hx hb dX10_walk_37 ?o330 ?_
                case o330 => decide
                refine lv_istore (lv' := [(4, .int r_91), (3, .int iv16_3), (2, .int iv9_2), (1, .int x_1), (0, .ref x)]) hx hb dX10_walk_43 hl ?o331 rfl (fun ls hl => ?_)
                case o331 => decide
                refine lv_iconst (v := 0) hx hb dX10_walk_45 ?o332 ?_
                case o332 => decide
                refine lv_istore (lv' := [(5, .int (0 : Int32)), (4, .int r_91), (3, .int iv16_3), (2, .int iv9_2), (1, .int x_1), (0, .ref x)]) hx hb dX10_walk_46 hl ?o333 rfl (fun ls hl => ?_)
                case o333 => decide
                have loop48 : ∀ (n48 : Nat) (iv48_4 iv48_5 : Int32) (H : Heap) (locs : List Loc) (hL1 : List Nat) (hl1 : hx_h), -2147483648 ≤ iv48_4.toInt → iv48_4.toInt ≤ 2147483647 → 0 ≤ iv48_5.toInt → iv48_5.toInt ≤ 8 → ((iv9_2.toInt = 0 ∧ 0 ≤ iv48_4.toInt ∧ iv48_4.toInt ≤ 198 ∧ iv48_4.toInt = (hx_fr lf agf dxf dyf n0.toInt) iv16_3.toInt n0.toInt) ∨ (iv9_2.toInt ≠ 0 ∧ hx_best (hx_fr lf agf dxf dyf n0.toInt) ia16_qhm iv9_2.toInt iv16_3.toInt iv48_5.toInt iv48_4.toInt)) → (iv48_5.toInt ≤ n0.toInt) → ∀ (ls : Array Slot), 8 - iv48_5.toInt < (n48 : Int) → hx_W T_tb (P_ty dA) (dC, dI) vwCl (hx_A L sz) s.heap hL1 hl1 s H locs → hx_T T_tb hL1 hl1 → hx_S T_tb [(10, 90), (10, 92), (113, 0), (114, 0)] L h hL1 hl1 → hl1.2.1 x 90 = n0 → hl1.2.1 qwd = wd0 → hl1.2.1 qhm = ia16_qhm → lv_has ls 6 [(5, .int iv48_5), (4, .int iv48_4), (3, .int iv16_3), (2, .int iv9_2), (1, .int x_1), (0, .ref x)] → W p l e ({ frames := 2, cells := 0, slots := 0, locals := 49 }) s m ([.ref x] : List Value).toArray below meth c H locs 0 0 (MQ below (va_Qi (fun (r : Int32) (u : List Nat × hx_h) => (∃ (ln1 : Int32) (wm1 : Int32) (wd1 : Nat → Int32), u.2.2.1 x 90 = ln1 ∧ u.2.2.1 x 92 = wm1 ∧ u.2.2.1 qwd = wd1 ∧ (ln1.toInt = 0 ∧ wm1.toInt = n0.toInt ∧ hx_WA (hx_fr lf agf dxf dyf n0.toInt) n0.toInt lf wd1 r.toInt)) ∧ hx_T T_tb u.1 u.2 ∧ hx_S T_tb [(10, 90), (10, 92), (113, 0), (114, 0)] L h u.1 u.2) (hx_E T_tb (P_ty dA) (dC, dI) vwCl (hx_A L sz)) (hx_A L sz)) ([.ref x] : List Value).toArray s 0 0 (hx_A L sz)) (F0 m 48 ls []) := by
                  intro n48
                  induction n48 with
                  | zero => intro iv48_4 iv48_5 H locs hL1 hl1 bliv48_4 buiv48_4 bliv48_5 buiv48_5 vi48_0 vi48_1 ls hn48; exfalso; omega
                  | succ n48 ih48 =>
                    intro iv48_4 iv48_5 H locs hL1 hl1 bliv48_4 buiv48_4 bliv48_5 buiv48_5 vi48_0 vi48_1 ls hn48 hW hT hM f_x_90 af_qwd nia16_qhm hl
                    refine lv_iload hx hb dX10_walk_48 (lv_at hl 0 rfl) ?_
                    refine lv_aload_n hx hb dX10_walk_50 rfl (lv_at hl 5 rfl) ?_
                    refine hk_geti hx hb hts hC_10 hown hW (gx.S hM) tt_10 90 ?o334 rfl kw_1233 ⟨rfl, rfl, rfl⟩ f_x_90 dX10_walk_51 ?_
                    case o334 => decide
                    refine hb_icmp_ge (zx := iv48_5.toInt) (zy := n0.toInt) (tgt := 105) hx hb rfl rfl dX10_walk_54 ?o335 (fun c_94 => ?_) (fun c_94 => ?_)
                    case o335 => decide
                    · skip
                      have hkn : iv48_5.toInt = n0.toInt := ?o336
                      case o336 => omega
                      have hbst : (iv9_2.toInt = 0 ∧ 0 ≤ iv48_4.toInt ∧ iv48_4.toInt ≤ 198 ∧ iv48_4.toInt = (hx_fr lf agf dxf dyf n0.toInt) iv16_3.toInt n0.toInt) ∨ (iv9_2.toInt ≠ 0 ∧ iv9_2.toInt < 2 ^ n0.toInt.toNat ∧ hx_best (hx_fr lf agf dxf dyf n0.toInt) ia16_qhm iv9_2.toInt iv16_3.toInt n0.toInt iv48_4.toInt) := vi48_0.elim (fun q => Or.inl q) (fun q => Or.inr ⟨q.1, ?o337, by have w := q.2; rw [hkn] at w; exact w⟩)
                      case o337 => omega
                      refine lv_aload_n hx hb dX10_walk_105 rfl (lv_at hl 5 rfl) ?_
                      refine hk_getr hx hb hts hC_10 hown hW (gx.S hM) tt_10 94 ?o338 rfl kw_1237 ⟨rfl, rfl, rfl⟩ ((hM.o gx trivial rfl).2.trans f_x_94) dX10_walk_106 ?_
                      case o338 => decide
                      refine lv_bipush (v := 9) hx hb dX10_walk_109 ?o339 ?_
                      case o339 => decide
                      refine lv_iload_n hx hb dX10_walk_111 rfl (lv_at hl 3 rfl) ?_
                      refine lv_imul hx hb dX10_walk_112 ?_
                      refine lv_topi (fun x_95 ex_95 => ?_)
                      have zx_95 : x_95.toInt = 9 * iv9_2.toInt := ?o340
                      case o340 =>
                        rw [ex_95]
                        refine i32_mul ?o341 rfl rfl ?o342 ?o343
                        case o341 => decide
                        case o342 => omega
                        case o343 => omega
                      refine lv_iload_n hx hb dX10_walk_113 rfl (lv_at hl 2 rfl) ?_
                      refine lv_iadd hx hb dX10_walk_114 ?_
                      have rg_96 := i32_r x_95
                      have rg_97 := i32_r iv16_3
                      refine lv_topi (fun x_98 ex_98 => ?_)
                      have zx_98 : x_98.toInt = x_95.toInt + iv16_3.toInt := ?o344
                      case o344 =>
                        rw [ex_98]
                        refine i32_add rfl rfl ?o345 ?o346
                        case o345 => omega
                        case o346 => omega
                      refine lv_iload hx hb dX10_walk_115 (lv_at hl 1 rfl) ?_
                      have nia16_qhmO := nia16_qhm
                      refine hx_iast hx hb hW hT (hx_S.rf (M := [(114, 0)])) (gqhm.S hM) tt_114 rfl ⟨?o347, ?o348⟩ rfl (i32_r _) (List.mem_singleton.mpr rfl) dX10_walk_117 (fun H locs h_99 eh_99 hW hT hs => ?_)
                      case o347 => omega
                      case o348 => omega
                      replace f_x_90 := (hs.o (gx.S hM) trivial rfl).1.trans f_x_90
                      replace af_qwd : h_99.2.1 qwd = wd0 := (funext fun j => (hs.a (gqwd.S hM) rfl j).1).trans af_qwd
                      replace hM := hM.tr (hs.mono ?o349)
                      case o349 => decide
                      obtain ⟨fa_100, dfa_100⟩ : ∃ g : Nat → Int32, g = hx_up ia16_qhm x_98.toNatClampNeg iv48_4 := ⟨_, rfl⟩
                      have nfa_100 : h_99.2.1 qhm = fa_100 := ?o350
                      case o350 =>
                        rw [eh_99, dfa_100, ← nia16_qhmO]
                        exact hx_pi_fun _ _ _ _
                      obtain ⟨x_101, ex_101⟩ : ∃ y : Int32, y = iv16_3 + Int32.ofInt 1 := ⟨_, rfl⟩
                      have zx_101 : x_101.toInt = iv16_3.toInt + (1) := ?o351
                      case o351 =>
                        rw [ex_101]
                        refine i32_add rfl ?o352 ?o353 ?o354
                        case o352 => decide
                        case o353 => omega
                        case o354 => omega
                      refine lv_iinc (v := x_101) (lv' := [(3, .int x_101), (5, .int iv48_5), (4, .int iv48_4), (2, .int iv9_2), (1, .int x_1), (0, .ref x)]) hx hb dX10_walk_118 hl (k := 2) rfl ex_101.symm ?o355 rfl (fun ls hl => ?_)
                      case o355 => decide
                      refine lv_goto (tgt := 16) hx hb dX10_walk_121 ?o356 ?_
                      case o356 => decide
                      refine ih16 x_101 fa_100 _ _ hL1 h_99 ?o357 ?o358 (hx_D_put vi16_0 ?o359 ?o360 ?o361 ?o362 ?o363 ?o364 rfl dfa_100 zx_101 hbst) ls ?o365 hW hT hM f_x_90 nfa_100 af_qwd (lv_sub hl [0, 3, 4, 5] rfl)
                      case o357 => omega
                      case o358 => omega
                      case o359 => omega
                      case o360 => omega
                      case o361 => omega
                      case o362 => omega
                      case o363 => omega
                      case o364 => omega
                      case o365 => omega
                    · skip
                      have hbits := hx_bits (L := iv9_2) (K := iv48_5) ?o366 ?o367 ?o368 ?o369
                      case o366 => omega
                      case o367 => omega
                      case o368 => omega
                      case o369 => omega
                      refine lv_iload_n hx hb dX10_walk_57 rfl (lv_at hl 3 rfl) ?_
                      refine lv_iload hx hb dX10_walk_58 (lv_at hl 0 rfl) ?_
                      refine lv_ishr hx hb dX10_walk_60 ?_
                      refine lv_topi (fun x_102 ex_102 => ?_)
                      refine lv_iconst (v := 1) hx hb dX10_walk_61 ?o370 ?_
                      case o370 => decide
                      refine lv_iand hx hb dX10_walk_62 ?_
                      refine lv_topi (fun x_103 ex_103 => ?_)
                      have zx_103 : 0 ≤ x_103.toInt ∧ x_103.toInt ≤ 1 := ?o371
                      case o371 =>
                        rw [ex_103]
                        refine hx_andR ?o372 ?o373
                        case o372 => decide
                        case o373 => decide
                      refine lv_iconst (v := 1) hx hb dX10_walk_63 ?o374 ?_
                      case o374 => decide
                      refine hb_icmp_ne (zx := x_103.toInt) (zy := 1) (tgt := 99) hx hb rfl ?o375 dX10_walk_64 ?o376 (fun c_104 => ?_) (fun c_104 => ?_)
                      case o375 => decide
                      case o376 => decide
                      · skip
                        have hbf := hx_bit_no hbits.1 ex_102 ex_103 ?o377
                        case o377 => omega
                        obtain ⟨x_105, ex_105⟩ : ∃ y : Int32, y = iv48_5 + Int32.ofInt 1 := ⟨_, rfl⟩
                        have rg_106 := i32_r iv48_5
                        have zx_105 : x_105.toInt = iv48_5.toInt + (1) := ?o378
                        case o378 =>
                          rw [ex_105]
                          refine i32_add rfl ?o379 ?o380 ?o381
                          case o379 => decide
                          case o380 => omega
                          case o381 => omega
                        refine lv_iinc (v := x_105) (lv' := [(5, .int x_105), (4, .int iv48_4), (3, .int iv16_3), (2, .int iv9_2), (1, .int x_1), (0, .ref x)]) hx hb dX10_walk_99 hl (k := 0) rfl ex_105.symm ?o382 rfl (fun ls hl => ?_)
                        case o382 => decide
                        refine lv_goto (tgt := 48) hx hb dX10_walk_102 ?o383 ?_
                        case o383 => decide
                        refine ih48 iv48_4 x_105 _ _ hL1 hl1 (i32_r _).1 (i32_r _).2 ?o384 ?o385 (vi48_0.elim (fun q => Or.inl q) (fun q => Or.inr ⟨q.1, hx_best_no q.2 hbf zx_105⟩)) ?o386 ls ?o387 hW hT hM f_x_90 af_qwd nia16_qhm (lv_sub hl [0, 1, 2, 3, 4, 5] rfl)
                        case o384 => omega
                        case o385 => omega
                        case o386 => omega
                        case o387 => omega
                      · skip
                        have hbt := hx_bit_yes hbits.1 ex_102 ex_103 ?o388
                        case o388 => omega
                        refine lv_iload hx hb dX10_walk_67 (lv_at hl 1 rfl) ?_
                        refine lv_aload_n hx hb dX10_walk_69 rfl (lv_at hl 5 rfl) ?_
                        refine lv_iload_n hx hb dX10_walk_70 rfl (lv_at hl 2 rfl) ?_
                        refine lv_iload hx hb dX10_walk_71 (lv_at hl 0 rfl) ?_
                        refine hx_goi (hx_runV (As := [.int iv16_3, .int iv48_5]) (rest := [.int iv48_4]) ⟨hx, hb, hml, hown, hts⟩ hW (gx.S hM) tt_10 (T := TX10) (N := 98) rfl (t_X10_far_2 l dC dI dA hL1 hl1 H.size x iv16_3 iv48_5 hT (gx.S hM) qls (gqls.S hM) ((hM.o gx trivial rfl).2.trans f_x_91) qag (gqag.S hM) ((hM.o gx trivial rfl).2.trans f_x_38) qdx (gqdx.S hM) ((hM.o gx trivial rfl).2.trans f_x_24) qdy (gqdy.S hM) ((hM.o gx trivial rfl).2.trans f_x_25) lf (hx_afS hM gqls rfl af_qls) agf (hx_afS hM gqag rfl af_qag) dxf (hx_afS hM gqdx rfl af_qdx) dyf (hx_afS hM gqdy rfl af_qdy) n0 f_x_90 ⟨?o389, ?o390⟩ ⟨?o391, ?o392⟩) (cwV 2 hts (hx_gV kw_1725 kw_1722 kw_1724 kw_90 kw_103) rfl rfl rfl (by decide +kernel) ⟨Nat.le_of_ble_eq_true rfl, Nat.le_of_ble_eq_true rfl⟩) rfl hl.1 rfl (Nat.le_of_ble_eq_true rfl) dX10_walk_73 ⟨Nat.le_of_ble_eq_true rfl, Nat.le_of_ble_eq_true rfl⟩) hW (fun r_109 L_107 h_108 H locs p_110 hW => ?_)
                        case o389 => omega
                        case o390 => omega
                        case o391 => omega
                        case o392 => omega
                        obtain ⟨hr_111, hT, hs⟩ := p_110
                        replace hT : hx_T T_tb L_107 h_108 := hT
                        replace hs : hx_S T_tb [] hL1 hl1 L_107 h_108 := hs
                        replace f_x_90 := (hs.o (gx.S hM) trivial rfl).1.trans f_x_90
                        replace af_qwd : h_108.2.1 qwd = wd0 := (funext fun j => (hs.a (gqwd.S hM) rfl j).1).trans af_qwd
                        replace nia16_qhm : h_108.2.1 qhm = ia16_qhm := (funext fun j => (hs.a (gqhm.S hM) rfl j).1).trans nia16_qhm
                        replace hM := hM.tr (hs.mono ?o393)
                        case o393 => decide
                        refine lv_aload_n hx hb dX10_walk_76 rfl (lv_at hl 5 rfl) ?_
                        refine hk_getr hx hb hts hC_10 hown hW (gx.S hM) tt_10 94 ?o394 rfl kw_1237 ⟨rfl, rfl, rfl⟩ ((hM.o gx trivial rfl).2.trans f_x_94) dX10_walk_77 ?_
                        case o394 => decide
                        refine lv_bipush (v := 9) hx hb dX10_walk_80 ?o395 ?_
                        case o395 => decide
                        refine lv_iload_n hx hb dX10_walk_82 rfl (lv_at hl 3 rfl) ?_
                        refine lv_iconst (v := 1) hx hb dX10_walk_83 ?o396 ?_
                        case o396 => decide
                        refine lv_iload hx hb dX10_walk_84 (lv_at hl 0 rfl) ?_
                        refine lv_ishl hx hb dX10_walk_86 ?_
                        refine lv_topi (fun x_112 ex_112 => ?_)
                        have zx_112 : 1 ≤ x_112.toInt ∧ x_112.toInt ≤ 128 := ?o397
                        case o397 =>
                          rw [ex_112]
                          refine hx_shl7 ?o398 ?o399
                          case o398 => omega
                          case o399 => omega
                        refine lv_ixor hx hb dX10_walk_87 ?_
                        refine lv_topi (fun x_113 ex_113 => ?_)
                        have hX := hbits.2.2.2 hbt
                        rw [← ex_112, ← ex_113] at hX
                        have hX1 := hX.1; have hX2 := hX.2.1; have hX3 := hX.2.2.1
                        refine lv_imul hx hb dX10_walk_88 ?_
                        refine lv_topi (fun x_114 ex_114 => ?_)
                        have zx_114 : x_114.toInt = 9 * x_113.toInt := ?o400
                        case o400 =>
                          rw [ex_114]
                          refine i32_mul ?o401 rfl rfl ?o402 ?o403
                          case o401 => decide
                          case o402 => omega
                          case o403 => omega
                        refine lv_iload hx hb dX10_walk_89 (lv_at hl 0 rfl) ?_
                        refine lv_iadd hx hb dX10_walk_91 ?_
                        have rg_115 := i32_r x_114
                        have rg_116 := i32_r iv48_5
                        refine lv_topi (fun x_117 ex_117 => ?_)
                        have zx_117 : x_117.toInt = x_114.toInt + iv48_5.toInt := ?o404
                        case o404 =>
                          rw [ex_117]
                          refine i32_add rfl rfl ?o405 ?o406
                          case o405 => omega
                          case o406 => omega
                        refine hx_iald hx hb hW hT (gqhm.S hM) tt_114 rfl ⟨?o407, ?o408⟩ dX10_walk_92 (fun x_118 ex_118 lx_118 ux_118 => ?_)
                        case o407 => omega
                        case o408 => omega
                        have ax_118 : x_118 = ia16_qhm x_117.toNatClampNeg := ex_118.trans (congrFun nia16_qhm _)
                        have hh : x_118.toInt = (ia16_qhm (9 * (iv9_2.toInt - hx_p2 iv48_5.toInt) + iv48_5.toInt).toNat).toInt := (congrArg Int32.toInt ax_118).trans (congrArg (fun z => (ia16_qhm z).toInt) (by unfold Int32.toNatClampNeg; omega))
                        have hdd := vi16_0.1 (iv9_2.toInt - hx_p2 iv48_5.toInt) iv48_5.toInt ?o409 ?o410 ?o411 ?o412
                        case o409 => omega
                        case o410 => omega
                        case o411 => omega
                        case o412 => omega
                        have hdd1 := hdd.1; have hdd2 := hdd.2.1
                        refine lv_iadd hx hb dX10_walk_93 ?_
                        have rg_119 := i32_r r_109
                        have rg_120 := i32_r x_118
                        refine lv_topi (fun x_121 ex_121 => ?_)
                        have zx_121 : x_121.toInt = r_109.toInt + x_118.toInt := ?o413
                        case o413 =>
                          rw [ex_121]
                          refine i32_add rfl rfl ?o414 ?o415
                          case o414 => omega
                          case o415 => omega
                        refine hx_goi (hx_runS (As := [.int iv48_4, .int x_121]) (rest := []) ⟨hx, hb, hml, hown, hts⟩ hW (t_X10_lesser_2 l dC dI dA L_107 h_108 H.size iv48_4 x_121 hT) (va_cwS 2 hts (hx_gS kw_1705 kw_1703 kw_1704 kw_103) rfl rfl rfl (by decide +kernel) ⟨Nat.le_of_ble_eq_true rfl, Nat.le_of_ble_eq_true rfl⟩) rfl hl.1 rfl (Nat.le_of_ble_eq_true rfl) dX10_walk_94 ⟨Nat.le_of_ble_eq_true rfl, Nat.le_of_ble_eq_true rfl⟩) hW (fun r_124 L_122 h_123 H locs p_125 hW => ?_)
                        obtain ⟨hr_126, hT, hs⟩ := p_125
                        replace hT : hx_T T_tb L_122 h_123 := hT
                        replace hs : hx_S T_tb [] L_107 h_108 L_122 h_123 := hs
                        replace f_x_90 := (hs.o (gx.S hM) trivial rfl).1.trans f_x_90
                        replace af_qwd : h_123.2.1 qwd = wd0 := (funext fun j => (hs.a (gqwd.S hM) rfl j).1).trans af_qwd
                        replace nia16_qhm : h_123.2.1 qhm = ia16_qhm := (funext fun j => (hs.a (gqhm.S hM) rfl j).1).trans nia16_qhm
                        replace ex_118 := ex_118.trans (hs.a (gqhm.S hM) rfl _).1.symm
                        replace hM := hM.tr (hs.mono ?o416)
                        case o416 => decide
                        refine lv_istore (lv' := [(4, .int r_124), (5, .int iv48_5), (3, .int iv16_3), (2, .int iv9_2), (1, .int x_1), (0, .ref x)]) hx hb dX10_walk_97 hl ?o417 rfl (fun ls hl => ?_)
                        case o417 => decide
                        have hcand : x_121.toInt = (hx_fr lf agf dxf dyf n0.toInt) iv16_3.toInt iv48_5.toInt + (ia16_qhm (9 * (iv9_2.toInt - hx_p2 iv48_5.toInt) + iv48_5.toInt).toNat).toInt := ?o418
                        case o418 => rw [zx_121, hr_111.1, hh]
                        have hF0 : 0 ≤ (hx_fr lf agf dxf dyf n0.toInt) iv16_3.toInt iv48_5.toInt := ?o419
                        case o419 =>
                          rw [← hr_111.1]
                          exact hr_111.2.1
                        have hF1 : (hx_fr lf agf dxf dyf n0.toInt) iv16_3.toInt iv48_5.toInt ≤ 198 := ?o420
                        case o420 =>
                          rw [← hr_111.1]
                          exact hr_111.2.2
                        obtain ⟨x_127, ex_127⟩ : ∃ y : Int32, y = iv48_5 + Int32.ofInt 1 := ⟨_, rfl⟩
                        have zx_127 : x_127.toInt = iv48_5.toInt + (1) := ?o421
                        case o421 =>
                          rw [ex_127]
                          refine i32_add rfl ?o422 ?o423 ?o424
                          case o422 => decide
                          case o423 => omega
                          case o424 => omega
                        refine lv_iinc (v := x_127) (lv' := [(5, .int x_127), (4, .int r_124), (3, .int iv16_3), (2, .int iv9_2), (1, .int x_1), (0, .ref x)]) hx hb dX10_walk_99 hl (k := 1) rfl ex_127.symm ?o425 rfl (fun ls hl => ?_)
                        case o425 => decide
                        refine lv_goto (tgt := 48) hx hb dX10_walk_102 ?o426 ?_
                        case o426 => decide
                        refine ih48 r_124 x_127 _ _ L_122 h_123 (i32_r _).1 (i32_r _).2 ?o427 ?o428 (vi48_0.elim (fun q => by exfalso; have hl0 : iv9_2.toInt = 0 := q.1; omega) (fun q => Or.inr ⟨q.1, hx_best_yes vi16_0 q.2 hbt hX2 hX3 ?o429 ?o430 ?o431 hF0 hF1 hcand (hr_126.elim (fun w => Or.inl ⟨congrArg Int32.toInt w.1, w.2⟩) (fun w => Or.inr ⟨congrArg Int32.toInt w.1, w.2⟩)) zx_127⟩)) ?o432 ls ?o433 hW hT hM f_x_90 af_qwd nia16_qhm (lv_sub hl [0, 1, 2, 3, 4, 5] rfl)
                        case o427 => omega
                        case o428 => omega
                        case o429 => omega
                        case o430 => omega
                        case o431 => omega
                        case o432 => omega
                        case o433 => omega
                have zk_0 : (0 : Int32).toInt = 0 := ?o434
                case o434 => decide
                refine loop48 9 r_91 (0 : Int32) _ _ L_89 h_90 (i32_r _).1 (i32_r _).2 ?o435 ?o436 (Or.inl ⟨?o437, ?o438, ?o439, by rw [hr_93.1]⟩) ?o440 ls ?o441 hW hT hM f_x_90 af_qwd nia16_qhm hl
                case o435 => decide
                case o436 => decide
                case o437 => omega
                case o438 => omega
                case o439 => omega
                case o440 => omega
                case o441 => omega
        have zk_0 : (0 : Int32).toInt = 0 := ?o442
        case o442 => decide
        refine loop16 10 (0 : Int32) ia9_qhm _ _ hL1 hl1 ?o443 ?o444 vi9_0 ls ?o445 hW hT hM f_x_90 nia9_qhm af_qwd hl
        case o443 => decide
        case o444 => decide
        case o445 => omega
  have zk_0 : (0 : Int32).toInt = 0 := ?o446
  case o446 => decide
  refine loop9 257 (0 : Int32) hm0 _ _ L h ?o447 ?o448 hx_D0 ls ?o449 hW hT hM f_x_90 af_qhm af_qwd hl
  case o447 => decide
  case o448 => decide
  case o449 => omega
end
section
/-! PURE FACTS for the reference's net: what is left of a claim, what a ring takes -/
def hx_ps (pof pdf psm pkf pst : Nat → Int32) (day known c : Int) : Nat → Int
  | 0 => 0
  | n + 1 => hx_ps pof pdf psm pkf pst day known c n + (if (pof n).toInt = c ∧ (pdf n).toInt ≤ day ∧ (pkf n).toInt ≤ known ∧ ((pst n).toInt = -1 ∨ known < (pst n).toInt) then (psm n).toInt else 0)
theorem hx_ps_s {pof pdf psm pkf pst : Nat → Int32} {day known c k k1 : Int} (h0 : 0 ≤ k) (e1 : k1 = k + 1) : hx_ps pof pdf psm pkf pst day known c k1.toNat = hx_ps pof pdf psm pkf pst day known c k.toNat + (if (pof k.toNat).toInt = c ∧ (pdf k.toNat).toInt ≤ day ∧ (pkf k.toNat).toInt ≤ known ∧ ((pst k.toNat).toInt = -1 ∨ known < (pst k.toNat).toInt) then (psm k.toNat).toInt else 0) := by
  subst e1
  have e : (k + 1).toNat = k.toNat + 1 := by omega
  rw [e]; rfl
theorem hx_ps_no1 {pof pdf psm pkf pst : Nat → Int32} {day known c k k1 v : Int} {x i : Int32} (h : v = hx_ps pof pdf psm pkf pst day known c k.toNat) (h0 : 0 ≤ k) (e1 : k1 = k + 1) (a : x = pof i.toNatClampNeg) (hi : i.toInt = k) (hx : x.toInt ≠ c) : v = hx_ps pof pdf psm pkf pst day known c k1.toNat := by
  have ei : i.toNatClampNeg = k.toNat := by unfold Int32.toNatClampNeg; omega
  rw [ei] at a
  rw [hx_ps_s h0 e1, if_neg (fun q => hx (by rw [a]; exact q.1)), h]; omega
theorem hx_ps_no2 {pof pdf psm pkf pst : Nat → Int32} {day known c k k1 v : Int} {x i : Int32} (h : v = hx_ps pof pdf psm pkf pst day known c k.toNat) (h0 : 0 ≤ k) (e1 : k1 = k + 1) (a : x = pdf i.toNatClampNeg) (hi : i.toInt = k) (hx : day < x.toInt) : v = hx_ps pof pdf psm pkf pst day known c k1.toNat := by
  have ei : i.toNatClampNeg = k.toNat := by unfold Int32.toNatClampNeg; omega
  rw [ei] at a
  rw [hx_ps_s h0 e1, if_neg (fun q => by have := q.2.1; rw [← a] at this; omega), h]; omega
theorem hx_ps_no3 {pof pdf psm pkf pst : Nat → Int32} {day known c k k1 v : Int} {x i : Int32} (h : v = hx_ps pof pdf psm pkf pst day known c k.toNat) (h0 : 0 ≤ k) (e1 : k1 = k + 1) (a : x = pkf i.toNatClampNeg) (hi : i.toInt = k) (hx : known < x.toInt) : v = hx_ps pof pdf psm pkf pst day known c k1.toNat := by
  have ei : i.toNatClampNeg = k.toNat := by unfold Int32.toNatClampNeg; omega
  rw [ei] at a
  rw [hx_ps_s h0 e1, if_neg (fun q => by have := q.2.2.1; rw [← a] at this; omega), h]; omega
theorem hx_ps_no4 {pof pdf psm pkf pst : Nat → Int32} {day known c k k1 v : Int} {x i : Int32} (h : v = hx_ps pof pdf psm pkf pst day known c k.toNat) (h0 : 0 ≤ k) (e1 : k1 = k + 1) (a : x = pst i.toNatClampNeg) (hi : i.toInt = k) (hx : x.toInt ≠ -1) (hx2 : x.toInt ≤ known) : v = hx_ps pof pdf psm pkf pst day known c k1.toNat := by
  have ei : i.toNatClampNeg = k.toNat := by unfold Int32.toNatClampNeg; omega
  rw [ei] at a
  rw [hx_ps_s h0 e1, if_neg (fun q => by have := q.2.2.2; rw [← a] at this; omega), h]; omega
theorem hx_ps_yes {pof pdf psm pkf pst : Nat → Int32} {day known c k k1 v v1 : Int} {x1 x2 x3 x4 x5 i : Int32} (h : v = hx_ps pof pdf psm pkf pst day known c k.toNat) (h0 : 0 ≤ k) (e1 : k1 = k + 1) (hi : i.toInt = k) (a1 : x1 = pof i.toNatClampNeg) (a2 : x2 = pdf i.toNatClampNeg) (a3 : x3 = pkf i.toNatClampNeg) (a4 : x4 = pst i.toNatClampNeg) (a5 : x5 = psm i.toNatClampNeg) (h1 : x1.toInt = c) (h2 : x2.toInt ≤ day) (h3 : x3.toInt ≤ known) (h4 : x4.toInt = -1 ∨ known < x4.toInt) (hv : v1 = v + x5.toInt) : v1 = hx_ps pof pdf psm pkf pst day known c k1.toNat := by
  have ei : i.toNatClampNeg = k.toNat := by unfold Int32.toNatClampNeg; omega
  rw [ei] at a1 a2 a3 a4 a5
  rw [hx_ps_s h0 e1, if_pos ⟨by rw [← a1]; exact h1, by rw [← a2]; exact h2, by rw [← a3]; exact h3, by rw [← a4]; exact h4⟩, hv, h, a5]
theorem hx_ps_congr {pof pdf psm pkf pst pof1 pdf1 psm1 pkf1 pst1 : Nat → Int32} {day known c : Int} : ∀ n, (∀ j, j < n → pof j = pof1 j ∧ pdf j = pdf1 j ∧ psm j = psm1 j ∧ pkf j = pkf1 j ∧ pst j = pst1 j) → hx_ps pof pdf psm pkf pst day known c n = hx_ps pof1 pdf1 psm1 pkf1 pst1 day known c n := by
  intro n
  induction n with
  | zero => intro _; rfl
  | succ n ih =>
    intro h
    obtain ⟨a, b, c1, d, e⟩ := h n (by omega)
    simp only [hx_ps, ih (fun j hj => h j (by omega)), a, b, c1, d, e]
/-- a payment of another claim changes nothing -/
theorem hx_ps_pay {pof pdf psm pkf pst pof1 pdf1 psm1 pkf1 pst1 : Nat → Int32} {day known c : Int} {k : Nat} {v1 v2 v3 v4 v5 : Int32} (e1 : pof1 = hx_up pof k v1) (e2 : pdf1 = hx_up pdf k v2) (e3 : psm1 = hx_up psm k v3) (e4 : pkf1 = hx_up pkf k v4) (e5 : pst1 = hx_up pst k v5) (hc : v1.toInt ≠ c) : hx_ps pof1 pdf1 psm1 pkf1 pst1 day known c (k + 1) = hx_ps pof pdf psm pkf pst day known c k := by
  subst e1; subst e2; subst e3; subst e4; subst e5
  simp only [hx_ps, hx_up_at]
  rw [if_neg (fun q => hc q.1), Int.add_zero]
  exact hx_ps_congr k (fun j hj => by rw [hx_up_ne (by omega), hx_up_ne (by omega), hx_up_ne (by omega), hx_up_ne (by omega), hx_up_ne (by omega)]; exact ⟨rfl, rfl, rfl, rfl, rfl⟩)
end
section
/-! WHAT IS LEFT OF A CLAIM, as one function -/
/-! PURE FACTS: debts, rings, what is needed -/
/-- a place of a ring is filled -/
theorem hx_up_c {f g : Nat → Int32} {i x : Int32} {k : Nat} (d : g = hx_up f i.toNatClampNeg x) (hi : i.toNatClampNeg = k) : (g k).toInt = x.toInt := by
  subst d; subst hi; rw [hx_up_at]
theorem hx_up_o {f g : Nat → Int32} {i x : Int32} {k : Nat} {v : Int} (d : g = hx_up f i.toNatClampNeg x) (hi : i.toNatClampNeg ≠ k) (h : (f k).toInt = v) : (g k).toInt = v := by
  subst d; rw [hx_up_ne (Ne.symm hi)]; exact h
theorem hx_cp_s {f g r : Nat → Int32} {i x : Int32} {n n1 : Int} (h : ∀ k : Nat, (k : Int) < n → f k = r k) (d : g = hx_up f i.toNatClampNeg x) (a : x = r i.toNatClampNeg) (hi : i.toInt = n) (h0 : 0 ≤ n) (e : n1 = n + 1) : ∀ k : Nat, (k : Int) < n1 → g k = r k := by
  intro k hk
  subst d
  by_cases z : k = i.toNatClampNeg
  · subst z; rw [hx_up_at]; exact a
  · rw [hx_up_ne z]
    refine h k ?_
    have : i.toNatClampNeg = n.toNat := by unfold Int32.toNatClampNeg; omega
    omega
end
section
set_option maxHeartbeats 4000000 in
set_option maxRecDepth 100000 in
theorem t_X10_lesser_3 (l : Launch) (dC : Nat → ClassId) (dI : Nat → Nat → Nat) (dA : Nat → ClassId) (L : List Nat) (h : hx_h) (sz : Nat) (i1 : Int32) (i2 : Int32) (hT : hx_T T_tb L h)   : Met l yX10_lesser (Cond.code yX10_lesser cX10_lesser 2 (some .int) :: hx_all) ({ frames := 0, cells := 0, slots := 0, locals := 0 }) (va_Pc [.int i1, .int i2] (hx_B T_tb (P_ty dA) (dC, dI) vwCl L h sz)) (va_Qi (fun (r : Int32) (u : List Nat × hx_h) => ((r = i1 ∧ i1.toInt < i2.toInt) ∨ (r = i2 ∧ i2.toInt ≤ i1.toInt)) ∧ hx_T T_tb u.1 u.2 ∧ hx_S T_tb [] L h u.1 u.2) (hx_E T_tb (P_ty dA) (dC, dI) vwCl (hx_A L sz)) (hx_A L sz)) 0 0 (hx_A L sz) := by
  refine hx_met (lv := [(0, .int i1), (1, .int i2)]) (by decide +kernel) rfl (Nat.le_of_ble_eq_true rfl) rfl ?_
  intro p e s m below meth c hx hb hml hr hlk hts0 hown hin hsz hW ls hl
  have hts : ∀ w ∈ hx_all, w.before _ s = true := fun w hw => hts0 w (List.mem_cons_of_mem _ hw)
  have hown : s.vm.findClass "SmallCourtModel" = some m.cls := hown
  have hM : hx_S T_tb [] L h L h := hx_S.rf
  refine lv_iload_n hx hb dX10_lesser_0 rfl (lv_at hl 0 rfl) ?_
  refine lv_iload_n hx hb dX10_lesser_1 rfl (lv_at hl 1 rfl) ?_
  refine hb_icmp_ge (zx := i1.toInt) (zy := i2.toInt) (tgt := 9) hx hb rfl rfl dX10_lesser_2 ?o0 (fun c_1 => ?_) (fun c_1 => ?_)
  case o0 => decide
  · skip
    refine lv_iload_n hx hb dX10_lesser_9 rfl (lv_at hl 1 rfl) ?_
    exact hx_reti hx hb hr hlk hW ⟨(by first | exact Or.inl ⟨rfl, by omega⟩ | exact Or.inr ⟨rfl, by omega⟩), hT, hM⟩ dX10_lesser_10
  · skip
    refine lv_iload_n hx hb dX10_lesser_5 rfl (lv_at hl 0 rfl) ?_
    refine lv_goto (tgt := 10) hx hb dX10_lesser_6 ?o1 ?_
    case o1 => decide
    exact hx_reti hx hb hr hlk hW ⟨(by first | exact Or.inl ⟨rfl, by omega⟩ | exact Or.inr ⟨rfl, by omega⟩), hT, hM⟩ dX10_lesser_10
end
section
def wNX10_takes : Nat := 4926572160251788883879708993989080200042036548587031971230210402484063971780674096727683001374510916644859986631553332244496883979903217732763417159562613384552056214710990604578277672759109532196078249578893161158597362873802847047104395817139636090397
theorem wX10_takes_c : hz_cd cX10_takes wNX10_takes 105 := ⟨by decide +kernel, by decide +kernel⟩
theorem dX10_takes_0 : decode cX10_takes 0 = .ok (.iload_n 3, 1) := dw_29 wX10_takes_c rfl
theorem dX10_takes_1 : decode cX10_takes 1 = .ok (.istore 5, 2) := dw_54 wX10_takes_c 5 rfl
theorem dX10_takes_3 : decode cX10_takes 3 = .ok (.iconst 0, 1) := dw_3 wX10_takes_c rfl
theorem dX10_takes_4 : decode cX10_takes 4 = .ok (.istore 6, 2) := dw_54 wX10_takes_c 6 rfl
theorem dX10_takes_6 : decode cX10_takes 6 = .ok (.iconst 0, 1) := dw_3 wX10_takes_c rfl
theorem dX10_takes_7 : decode cX10_takes 7 = .ok (.istore 7, 2) := dw_54 wX10_takes_c 7 rfl
theorem dX10_takes_9 : decode cX10_takes 9 = .ok (.iload 7, 2) := dw_21 wX10_takes_c 7 rfl
theorem dX10_takes_11 : decode cX10_takes 11 = .ok (.aload_n 0, 1) := dw_42 wX10_takes_c rfl
theorem dX10_takes_12 : decode cX10_takes 12 = .ok (.getfield 367, 3) := dw_180 wX10_takes_c 1 111 rfl rfl
theorem dX10_takes_15 : decode cX10_takes 15 = .ok (.if_icmp .ge 87, 3) := dw_162 wX10_takes_c 0 87 rfl rfl rfl
theorem dX10_takes_18 : decode cX10_takes 18 = .ok (.iload 5, 2) := dw_21 wX10_takes_c 5 rfl
theorem dX10_takes_20 : decode cX10_takes 20 = .ok (.ifCond .le 82, 3) := dw_158 wX10_takes_c 0 82 rfl rfl rfl
theorem dX10_takes_23 : decode cX10_takes 23 = .ok (.aload_n 0, 1) := dw_42 wX10_takes_c rfl
theorem dX10_takes_24 : decode cX10_takes 24 = .ok (.getfield 84, 3) := dw_180 wX10_takes_c 0 84 rfl rfl
theorem dX10_takes_27 : decode cX10_takes 27 = .ok (.iload 7, 2) := dw_21 wX10_takes_c 7 rfl
theorem dX10_takes_29 : decode cX10_takes 29 = .ok (.iaload, 1) := dw_46 wX10_takes_c rfl
theorem dX10_takes_30 : decode cX10_takes 30 = .ok (.iload_n 1, 1) := dw_27 wX10_takes_c rfl
theorem dX10_takes_31 : decode cX10_takes 31 = .ok (.if_icmp .ne 65, 3) := dw_160 wX10_takes_c 0 65 rfl rfl rfl
theorem dX10_takes_34 : decode cX10_takes 34 = .ok (.aload_n 0, 1) := dw_42 wX10_takes_c rfl
theorem dX10_takes_35 : decode cX10_takes 35 = .ok (.getfield 81, 3) := dw_180 wX10_takes_c 0 81 rfl rfl
theorem dX10_takes_38 : decode cX10_takes 38 = .ok (.iload 7, 2) := dw_21 wX10_takes_c 7 rfl
theorem dX10_takes_40 : decode cX10_takes 40 = .ok (.iaload, 1) := dw_46 wX10_takes_c rfl
theorem dX10_takes_41 : decode cX10_takes 41 = .ok (.iload_n 2, 1) := dw_28 wX10_takes_c rfl
theorem dX10_takes_42 : decode cX10_takes 42 = .ok (.if_icmp .ne 54, 3) := dw_160 wX10_takes_c 0 54 rfl rfl rfl
theorem dX10_takes_45 : decode cX10_takes 45 = .ok (.aload_n 0, 1) := dw_42 wX10_takes_c rfl
theorem dX10_takes_46 : decode cX10_takes 46 = .ok (.iload 7, 2) := dw_21 wX10_takes_c 7 rfl
theorem dX10_takes_48 : decode cX10_takes 48 = .ok (.invokevirtual 419, 3) := dw_182 wX10_takes_c 1 163 rfl rfl
theorem dX10_takes_51 : decode cX10_takes 51 = .ok (.ifCond .ne 6, 3) := dw_154 wX10_takes_c 0 6 rfl rfl rfl
theorem dX10_takes_54 : decode cX10_takes 54 = .ok (.goto 42, 3) := dw_167 wX10_takes_c 0 42 rfl rfl rfl
theorem dX10_takes_57 : decode cX10_takes 57 = .ok (.iload 5, 2) := dw_21 wX10_takes_c 5 rfl
theorem dX10_takes_59 : decode cX10_takes 59 = .ok (.aload_n 0, 1) := dw_42 wX10_takes_c rfl
theorem dX10_takes_60 : decode cX10_takes 60 = .ok (.getfield 401, 3) := dw_180 wX10_takes_c 1 145 rfl rfl
theorem dX10_takes_63 : decode cX10_takes 63 = .ok (.invokestatic 448, 3) := dw_184 wX10_takes_c 1 192 rfl rfl
theorem dX10_takes_66 : decode cX10_takes 66 = .ok (.istore 8, 2) := dw_54 wX10_takes_c 8 rfl
theorem dX10_takes_68 : decode cX10_takes 68 = .ok (.iload 4, 2) := dw_21 wX10_takes_c 4 rfl
theorem dX10_takes_70 : decode cX10_takes 70 = .ok (.ifCond .eq 16, 3) := dw_153 wX10_takes_c 0 16 rfl rfl rfl
theorem dX10_takes_86 : decode cX10_takes 86 = .ok (.iload 5, 2) := dw_21 wX10_takes_c 5 rfl
theorem dX10_takes_88 : decode cX10_takes 88 = .ok (.iload 8, 2) := dw_21 wX10_takes_c 8 rfl
theorem dX10_takes_90 : decode cX10_takes 90 = .ok (.isub, 1) := dw_100 wX10_takes_c rfl
theorem dX10_takes_91 : decode cX10_takes 91 = .ok (.istore 5, 2) := dw_54 wX10_takes_c 5 rfl
theorem dX10_takes_93 : decode cX10_takes 93 = .ok (.iinc 6 1, 3) := dw_132 wX10_takes_c 6 1 rfl rfl rfl
theorem dX10_takes_96 : decode cX10_takes 96 = .ok (.iinc 7 1, 3) := dw_132 wX10_takes_c 7 1 rfl rfl rfl
theorem dX10_takes_99 : decode cX10_takes 99 = .ok (.goto (-90), 3) := dn_167 wX10_takes_c 255 166 rfl (by decide)
theorem dX10_takes_102 : decode cX10_takes 102 = .ok (.iload 6, 2) := dw_21 wX10_takes_c 6 rfl
theorem dX10_takes_104 : decode cX10_takes 104 = .ok (.ireturn, 1) := dw_172 wX10_takes_c rfl
theorem dX10_takes_73 : decode cX10_takes 73 = .ok (.aload_n 0, 1) := dw_42 wX10_takes_c rfl
theorem dX10_takes_74 : decode cX10_takes 74 = .ok (.iload 7, 2) := dw_21 wX10_takes_c 7 rfl
theorem dX10_takes_76 : decode cX10_takes 76 = .ok (.aload_n 0, 1) := dw_42 wX10_takes_c rfl
theorem dX10_takes_77 : decode cX10_takes 77 = .ok (.getfield 232, 3) := dw_180 wX10_takes_c 0 232 rfl rfl
theorem dX10_takes_80 : decode cX10_takes 80 = .ok (.iload 8, 2) := dw_21 wX10_takes_c 8 rfl
theorem dX10_takes_82 : decode cX10_takes 82 = .ok (.invokevirtual 425, 3) := dw_182 wX10_takes_c 1 169 rfl rfl
theorem dX10_takes_85 : decode cX10_takes 85 = .ok (.pop, 1) := dw_87 wX10_takes_c rfl
end
section
/-- a fact that omega is not to see -/
def hq_P (p : Prop) : Prop := p
theorem hq_i {p : Prop} (h : p) : hq_P p := h
theorem hq_o {p : Prop} (h : hq_P p) : p := h
end
