theorem dX10_hear_0 : decode cX10_hear 0 = .ok (.aload_n 0, 1) := by decide +kernel
theorem dX10_hear_1 : decode cX10_hear 1 = .ok (.iload_n 1, 1) := by decide +kernel
theorem dX10_hear_2 : decode cX10_hear 2 = .ok (.invokevirtual 370, 3) := by decide +kernel
theorem dX10_hear_5 : decode cX10_hear 5 = .ok (.ifCond .eq 42, 3) := by decide +kernel
theorem dX10_hear_8 : decode cX10_hear 8 = .ok (.aload_n 0, 1) := by decide +kernel
theorem dX10_hear_9 : decode cX10_hear 9 = .ok (.getfield 108, 3) := by decide +kernel
theorem dX10_hear_12 : decode cX10_hear 12 = .ok (.iload_n 1, 1) := by decide +kernel
theorem dX10_hear_13 : decode cX10_hear 13 = .ok (.iaload, 1) := by decide +kernel
theorem dX10_hear_14 : decode cX10_hear 14 = .ok (.iconst (-1), 1) := by decide +kernel
theorem dX10_hear_15 : decode cX10_hear 15 = .ok (.if_icmp .eq 32, 3) := by decide +kernel
theorem dX10_hear_18 : decode cX10_hear 18 = .ok (.aload_n 0, 1) := by decide +kernel
theorem dX10_hear_19 : decode cX10_hear 19 = .ok (.getfield 111, 3) := by decide +kernel
theorem dX10_hear_22 : decode cX10_hear 22 = .ok (.iload_n 1, 1) := by decide +kernel
theorem dX10_hear_23 : decode cX10_hear 23 = .ok (.iaload, 1) := by decide +kernel
theorem dX10_hear_24 : decode cX10_hear 24 = .ok (.iconst (-1), 1) := by decide +kernel
theorem dX10_hear_25 : decode cX10_hear 25 = .ok (.if_icmp .ne 22, 3) := by decide +kernel
theorem dX10_hear_28 : decode cX10_hear 28 = .ok (.aload_n 0, 1) := by decide +kernel
theorem dX10_hear_29 : decode cX10_hear 29 = .ok (.getfield 56, 3) := by decide +kernel
theorem dX10_hear_32 : decode cX10_hear 32 = .ok (.aload_n 0, 1) := by decide +kernel
theorem dX10_hear_33 : decode cX10_hear 33 = .ok (.getfield 84, 3) := by decide +kernel
theorem dX10_hear_36 : decode cX10_hear 36 = .ok (.iload_n 1, 1) := by decide +kernel
theorem dX10_hear_37 : decode cX10_hear 37 = .ok (.iaload, 1) := by decide +kernel
theorem dX10_hear_38 : decode cX10_hear 38 = .ok (.baload, 1) := by decide +kernel
theorem dX10_hear_39 : decode cX10_hear 39 = .ok (.ifCond .ne 8, 3) := by decide +kernel
theorem dX10_hear_42 : decode cX10_hear 42 = .ok (.iload 4, 2) := by decide +kernel
theorem dX10_hear_44 : decode cX10_hear 44 = .ok (.ifCond .ge 5, 3) := by decide +kernel
theorem dX10_hear_47 : decode cX10_hear 47 = .ok (.iconst (-1), 1) := by decide +kernel
theorem dX10_hear_48 : decode cX10_hear 48 = .ok (.ireturn, 1) := by decide +kernel
theorem dX10_hear_49 : decode cX10_hear 49 = .ok (.aload_n 0, 1) := by decide +kernel
theorem dX10_hear_50 : decode cX10_hear 50 = .ok (.iload_n 1, 1) := by decide +kernel
theorem dX10_hear_51 : decode cX10_hear 51 = .ok (.invokevirtual 385, 3) := by decide +kernel
theorem dX10_hear_54 : decode cX10_hear 54 = .ok (.istore 5, 2) := by decide +kernel
theorem dX10_hear_56 : decode cX10_hear 56 = .ok (.iload 5, 2) := by decide +kernel
theorem dX10_hear_58 : decode cX10_hear 58 = .ok (.iconst 3, 1) := by decide +kernel
theorem dX10_hear_59 : decode cX10_hear 59 = .ok (.if_icmp .ge 5, 3) := by decide +kernel
theorem dX10_hear_62 : decode cX10_hear 62 = .ok (.iconst (-1), 1) := by decide +kernel
theorem dX10_hear_63 : decode cX10_hear 63 = .ok (.ireturn, 1) := by decide +kernel
theorem dX10_hear_64 : decode cX10_hear 64 = .ok (.aload_n 0, 1) := by decide +kernel
theorem dX10_hear_65 : decode cX10_hear 65 = .ok (.iload_n 1, 1) := by decide +kernel
theorem dX10_hear_66 : decode cX10_hear 66 = .ok (.iload 5, 2) := by decide +kernel
theorem dX10_hear_68 : decode cX10_hear 68 = .ok (.iload 4, 2) := by decide +kernel
theorem dX10_hear_70 : decode cX10_hear 70 = .ok (.iload 5, 2) := by decide +kernel
theorem dX10_hear_72 : decode cX10_hear 72 = .ok (.iload 5, 2) := by decide +kernel
theorem dX10_hear_74 : decode cX10_hear 74 = .ok (.iconst 1, 1) := by decide +kernel
theorem dX10_hear_75 : decode cX10_hear 75 = .ok (.isub, 1) := by decide +kernel
theorem dX10_hear_76 : decode cX10_hear 76 = .ok (.imul, 1) := by decide +kernel
theorem dX10_hear_77 : decode cX10_hear 77 = .ok (.iload 5, 2) := by decide +kernel
theorem dX10_hear_79 : decode cX10_hear 79 = .ok (.iconst 2, 1) := by decide +kernel
theorem dX10_hear_80 : decode cX10_hear 80 = .ok (.isub, 1) := by decide +kernel
theorem dX10_hear_81 : decode cX10_hear 81 = .ok (.imul, 1) := by decide +kernel
theorem dX10_hear_82 : decode cX10_hear 82 = .ok (.bipush 6, 2) := by decide +kernel
theorem dX10_hear_84 : decode cX10_hear 84 = .ok (.idiv, 1) := by decide +kernel
theorem dX10_hear_85 : decode cX10_hear 85 = .ok (.irem, 1) := by decide +kernel
theorem dX10_hear_86 : decode cX10_hear 86 = .ok (.invokevirtual 388, 3) := by decide +kernel
theorem dX10_hear_89 : decode cX10_hear 89 = .ok (.aload_n 0, 1) := by decide +kernel
theorem dX10_hear_90 : decode cX10_hear 90 = .ok (.getfield 111, 3) := by decide +kernel
theorem dX10_hear_93 : decode cX10_hear 93 = .ok (.iload_n 1, 1) := by decide +kernel
theorem dX10_hear_94 : decode cX10_hear 94 = .ok (.aload_n 0, 1) := by decide +kernel
theorem dX10_hear_95 : decode cX10_hear 95 = .ok (.getfield 232, 3) := by decide +kernel
theorem dX10_hear_98 : decode cX10_hear 98 = .ok (.iastore, 1) := by decide +kernel
theorem dX10_hear_99 : decode cX10_hear 99 = .ok (.aload_n 0, 1) := by decide +kernel
theorem dX10_hear_100 : decode cX10_hear 100 = .ok (.getfield 141, 3) := by decide +kernel
theorem dX10_hear_103 : decode cX10_hear 103 = .ok (.aload_n 0, 1) := by decide +kernel
theorem dX10_hear_104 : decode cX10_hear 104 = .ok (.getfield 392, 3) := by decide +kernel
theorem dX10_hear_107 : decode cX10_hear 107 = .ok (.iload_n 1, 1) := by decide +kernel
theorem dX10_hear_108 : decode cX10_hear 108 = .ok (.iastore, 1) := by decide +kernel
theorem dX10_hear_109 : decode cX10_hear 109 = .ok (.aload_n 0, 1) := by decide +kernel
theorem dX10_hear_110 : decode cX10_hear 110 = .ok (.dup, 1) := by decide +kernel
theorem dX10_hear_111 : decode cX10_hear 111 = .ok (.getfield 392, 3) := by decide +kernel
theorem dX10_hear_114 : decode cX10_hear 114 = .ok (.iconst 1, 1) := by decide +kernel
theorem dX10_hear_115 : decode cX10_hear 115 = .ok (.iadd, 1) := by decide +kernel
theorem dX10_hear_116 : decode cX10_hear 116 = .ok (.putfield 392, 3) := by decide +kernel
theorem dX10_hear_119 : decode cX10_hear 119 = .ok (.aload_n 0, 1) := by decide +kernel
theorem dX10_hear_120 : decode cX10_hear 120 = .ok (.getfield 129, 3) := by decide +kernel
theorem dX10_hear_123 : decode cX10_hear 123 = .ok (.bipush 8, 2) := by decide +kernel
theorem dX10_hear_125 : decode cX10_hear 125 = .ok (.iload_n 1, 1) := by decide +kernel
theorem dX10_hear_126 : decode cX10_hear 126 = .ok (.imul, 1) := by decide +kernel
theorem dX10_hear_127 : decode cX10_hear 127 = .ok (.iload_n 2, 1) := by decide +kernel
theorem dX10_hear_128 : decode cX10_hear 128 = .ok (.ifCond .eq 7, 3) := by decide +kernel
theorem dX10_hear_131 : decode cX10_hear 131 = .ok (.iconst 1, 1) := by decide +kernel
theorem dX10_hear_132 : decode cX10_hear 132 = .ok (.goto 4, 3) := by decide +kernel
theorem dX10_hear_135 : decode cX10_hear 135 = .ok (.iconst 0, 1) := by decide +kernel
theorem dX10_hear_136 : decode cX10_hear 136 = .ok (.iastore, 1) := by decide +kernel
theorem dX10_hear_137 : decode cX10_hear 137 = .ok (.aload_n 0, 1) := by decide +kernel
theorem dX10_hear_138 : decode cX10_hear 138 = .ok (.getfield 129, 3) := by decide +kernel
theorem dX10_hear_141 : decode cX10_hear 141 = .ok (.bipush 8, 2) := by decide +kernel
theorem dX10_hear_143 : decode cX10_hear 143 = .ok (.iload_n 1, 1) := by decide +kernel
theorem dX10_hear_144 : decode cX10_hear 144 = .ok (.imul, 1) := by decide +kernel
theorem dX10_hear_145 : decode cX10_hear 145 = .ok (.iconst 1, 1) := by decide +kernel
theorem dX10_hear_146 : decode cX10_hear 146 = .ok (.iadd, 1) := by decide +kernel
theorem dX10_hear_147 : decode cX10_hear 147 = .ok (.iload_n 3, 1) := by decide +kernel
theorem dX10_hear_148 : decode cX10_hear 148 = .ok (.ifCond .eq 7, 3) := by decide +kernel
theorem dX10_hear_151 : decode cX10_hear 151 = .ok (.iconst 1, 1) := by decide +kernel
theorem dX10_hear_152 : decode cX10_hear 152 = .ok (.goto 4, 3) := by decide +kernel
theorem dX10_hear_155 : decode cX10_hear 155 = .ok (.iconst 0, 1) := by decide +kernel
theorem dX10_hear_156 : decode cX10_hear 156 = .ok (.iastore, 1) := by decide +kernel
theorem dX10_hear_157 : decode cX10_hear 157 = .ok (.aload_n 0, 1) := by decide +kernel
theorem dX10_hear_158 : decode cX10_hear 158 = .ok (.getfield 129, 3) := by decide +kernel
theorem dX10_hear_161 : decode cX10_hear 161 = .ok (.bipush 8, 2) := by decide +kernel
theorem dX10_hear_163 : decode cX10_hear 163 = .ok (.iload_n 1, 1) := by decide +kernel
theorem dX10_hear_164 : decode cX10_hear 164 = .ok (.imul, 1) := by decide +kernel
theorem dX10_hear_165 : decode cX10_hear 165 = .ok (.iconst 2, 1) := by decide +kernel
theorem dX10_hear_166 : decode cX10_hear 166 = .ok (.iadd, 1) := by decide +kernel
theorem dX10_hear_167 : decode cX10_hear 167 = .ok (.aload_n 0, 1) := by decide +kernel
theorem dX10_hear_168 : decode cX10_hear 168 = .ok (.getfield 93, 3) := by decide +kernel
theorem dX10_hear_171 : decode cX10_hear 171 = .ok (.iload_n 1, 1) := by decide +kernel
theorem dX10_hear_172 : decode cX10_hear 172 = .ok (.baload, 1) := by decide +kernel
theorem dX10_hear_173 : decode cX10_hear 173 = .ok (.ifCond .eq 7, 3) := by decide +kernel
theorem dX10_hear_176 : decode cX10_hear 176 = .ok (.iconst 1, 1) := by decide +kernel
theorem dX10_hear_177 : decode cX10_hear 177 = .ok (.goto 4, 3) := by decide +kernel
theorem dX10_hear_180 : decode cX10_hear 180 = .ok (.iconst 0, 1) := by decide +kernel
theorem dX10_hear_181 : decode cX10_hear 181 = .ok (.iastore, 1) := by decide +kernel
theorem dX10_hear_182 : decode cX10_hear 182 = .ok (.aload_n 0, 1) := by decide +kernel
theorem dX10_hear_183 : decode cX10_hear 183 = .ok (.getfield 129, 3) := by decide +kernel
theorem dX10_hear_186 : decode cX10_hear 186 = .ok (.bipush 8, 2) := by decide +kernel
theorem dX10_hear_188 : decode cX10_hear 188 = .ok (.iload_n 1, 1) := by decide +kernel
theorem dX10_hear_189 : decode cX10_hear 189 = .ok (.imul, 1) := by decide +kernel
theorem dX10_hear_190 : decode cX10_hear 190 = .ok (.iconst 3, 1) := by decide +kernel
theorem dX10_hear_191 : decode cX10_hear 191 = .ok (.iadd, 1) := by decide +kernel
theorem dX10_hear_192 : decode cX10_hear 192 = .ok (.aload_n 0, 1) := by decide +kernel
theorem dX10_hear_193 : decode cX10_hear 193 = .ok (.getfield 96, 3) := by decide +kernel
theorem dX10_hear_196 : decode cX10_hear 196 = .ok (.iload_n 1, 1) := by decide +kernel
theorem dX10_hear_197 : decode cX10_hear 197 = .ok (.iaload, 1) := by decide +kernel
theorem dX10_hear_198 : decode cX10_hear 198 = .ok (.iastore, 1) := by decide +kernel
theorem dX10_hear_199 : decode cX10_hear 199 = .ok (.aload_n 0, 1) := by decide +kernel
theorem dX10_hear_200 : decode cX10_hear 200 = .ok (.getfield 129, 3) := by decide +kernel
theorem dX10_hear_203 : decode cX10_hear 203 = .ok (.bipush 8, 2) := by decide +kernel
theorem dX10_hear_205 : decode cX10_hear 205 = .ok (.iload_n 1, 1) := by decide +kernel
theorem dX10_hear_206 : decode cX10_hear 206 = .ok (.imul, 1) := by decide +kernel
theorem dX10_hear_207 : decode cX10_hear 207 = .ok (.iconst 4, 1) := by decide +kernel
theorem dX10_hear_208 : decode cX10_hear 208 = .ok (.iadd, 1) := by decide +kernel
theorem dX10_hear_209 : decode cX10_hear 209 = .ok (.aload_n 0, 1) := by decide +kernel
theorem dX10_hear_210 : decode cX10_hear 210 = .ok (.aload_n 0, 1) := by decide +kernel
theorem dX10_hear_211 : decode cX10_hear 211 = .ok (.getfield 81, 3) := by decide +kernel
theorem dX10_hear_214 : decode cX10_hear 214 = .ok (.iload_n 1, 1) := by decide +kernel
theorem dX10_hear_215 : decode cX10_hear 215 = .ok (.iaload, 1) := by decide +kernel
theorem dX10_hear_216 : decode cX10_hear 216 = .ok (.aload_n 0, 1) := by decide +kernel
theorem dX10_hear_217 : decode cX10_hear 217 = .ok (.getfield 84, 3) := by decide +kernel
theorem dX10_hear_220 : decode cX10_hear 220 = .ok (.iload_n 1, 1) := by decide +kernel
theorem dX10_hear_221 : decode cX10_hear 221 = .ok (.iaload, 1) := by decide +kernel
theorem dX10_hear_222 : decode cX10_hear 222 = .ok (.aload_n 0, 1) := by decide +kernel
theorem dX10_hear_223 : decode cX10_hear 223 = .ok (.getfield 99, 3) := by decide +kernel
theorem dX10_hear_226 : decode cX10_hear 226 = .ok (.iload_n 1, 1) := by decide +kernel
theorem dX10_hear_227 : decode cX10_hear 227 = .ok (.iaload, 1) := by decide +kernel
theorem dX10_hear_228 : decode cX10_hear 228 = .ok (.invokevirtual 358, 3) := by decide +kernel
theorem dX10_hear_231 : decode cX10_hear 231 = .ok (.iastore, 1) := by decide +kernel
theorem dX10_hear_232 : decode cX10_hear 232 = .ok (.aload_n 0, 1) := by decide +kernel
theorem dX10_hear_233 : decode cX10_hear 233 = .ok (.getfield 129, 3) := by decide +kernel
theorem dX10_hear_236 : decode cX10_hear 236 = .ok (.bipush 8, 2) := by decide +kernel
theorem dX10_hear_238 : decode cX10_hear 238 = .ok (.iload_n 1, 1) := by decide +kernel
theorem dX10_hear_239 : decode cX10_hear 239 = .ok (.imul, 1) := by decide +kernel
theorem dX10_hear_240 : decode cX10_hear 240 = .ok (.iconst 5, 1) := by decide +kernel
theorem dX10_hear_241 : decode cX10_hear 241 = .ok (.iadd, 1) := by decide +kernel
theorem dX10_hear_242 : decode cX10_hear 242 = .ok (.aload_n 0, 1) := by decide +kernel
theorem dX10_hear_243 : decode cX10_hear 243 = .ok (.aload_n 0, 1) := by decide +kernel
theorem dX10_hear_244 : decode cX10_hear 244 = .ok (.getfield 84, 3) := by decide +kernel
theorem dX10_hear_247 : decode cX10_hear 247 = .ok (.iload_n 1, 1) := by decide +kernel
theorem dX10_hear_248 : decode cX10_hear 248 = .ok (.iaload, 1) := by decide +kernel
theorem dX10_hear_249 : decode cX10_hear 249 = .ok (.aload_n 0, 1) := by decide +kernel
theorem dX10_hear_250 : decode cX10_hear 250 = .ok (.getfield 81, 3) := by decide +kernel
theorem dX10_hear_253 : decode cX10_hear 253 = .ok (.iload_n 1, 1) := by decide +kernel
theorem dX10_hear_254 : decode cX10_hear 254 = .ok (.iaload, 1) := by decide +kernel
theorem dX10_hear_255 : decode cX10_hear 255 = .ok (.aload_n 0, 1) := by decide +kernel
theorem dX10_hear_256 : decode cX10_hear 256 = .ok (.getfield 99, 3) := by decide +kernel
theorem dX10_hear_259 : decode cX10_hear 259 = .ok (.iload_n 1, 1) := by decide +kernel
theorem dX10_hear_260 : decode cX10_hear 260 = .ok (.iaload, 1) := by decide +kernel
theorem dX10_hear_261 : decode cX10_hear 261 = .ok (.invokevirtual 358, 3) := by decide +kernel
theorem dX10_hear_264 : decode cX10_hear 264 = .ok (.ineg, 1) := by decide +kernel
theorem dX10_hear_265 : decode cX10_hear 265 = .ok (.iastore, 1) := by decide +kernel
theorem dX10_hear_266 : decode cX10_hear 266 = .ok (.aload_n 0, 1) := by decide +kernel
theorem dX10_hear_267 : decode cX10_hear 267 = .ok (.getfield 129, 3) := by decide +kernel
theorem dX10_hear_270 : decode cX10_hear 270 = .ok (.bipush 8, 2) := by decide +kernel
theorem dX10_hear_272 : decode cX10_hear 272 = .ok (.iload_n 1, 1) := by decide +kernel
theorem dX10_hear_273 : decode cX10_hear 273 = .ok (.imul, 1) := by decide +kernel
theorem dX10_hear_274 : decode cX10_hear 274 = .ok (.bipush 6, 2) := by decide +kernel
theorem dX10_hear_276 : decode cX10_hear 276 = .ok (.iadd, 1) := by decide +kernel
theorem dX10_hear_277 : decode cX10_hear 277 = .ok (.aload_n 0, 1) := by decide +kernel
theorem dX10_hear_278 : decode cX10_hear 278 = .ok (.aload_n 0, 1) := by decide +kernel
theorem dX10_hear_279 : decode cX10_hear 279 = .ok (.getfield 81, 3) := by decide +kernel
theorem dX10_hear_282 : decode cX10_hear 282 = .ok (.iload_n 1, 1) := by decide +kernel
theorem dX10_hear_283 : decode cX10_hear 283 = .ok (.iaload, 1) := by decide +kernel
theorem dX10_hear_284 : decode cX10_hear 284 = .ok (.aload_n 0, 1) := by decide +kernel
theorem dX10_hear_285 : decode cX10_hear 285 = .ok (.getfield 84, 3) := by decide +kernel
theorem dX10_hear_288 : decode cX10_hear 288 = .ok (.iload_n 1, 1) := by decide +kernel
theorem dX10_hear_289 : decode cX10_hear 289 = .ok (.iaload, 1) := by decide +kernel
theorem dX10_hear_290 : decode cX10_hear 290 = .ok (.aload_n 0, 1) := by decide +kernel
theorem dX10_hear_291 : decode cX10_hear 291 = .ok (.getfield 99, 3) := by decide +kernel
theorem dX10_hear_294 : decode cX10_hear 294 = .ok (.iload_n 1, 1) := by decide +kernel
theorem dX10_hear_295 : decode cX10_hear 295 = .ok (.iaload, 1) := by decide +kernel
theorem dX10_hear_296 : decode cX10_hear 296 = .ok (.invokevirtual 361, 3) := by decide +kernel
theorem dX10_hear_299 : decode cX10_hear 299 = .ok (.iastore, 1) := by decide +kernel
theorem dX10_hear_300 : decode cX10_hear 300 = .ok (.aload_n 0, 1) := by decide +kernel
theorem dX10_hear_301 : decode cX10_hear 301 = .ok (.getfield 129, 3) := by decide +kernel
theorem dX10_hear_304 : decode cX10_hear 304 = .ok (.bipush 8, 2) := by decide +kernel
theorem dX10_hear_306 : decode cX10_hear 306 = .ok (.iload_n 1, 1) := by decide +kernel
theorem dX10_hear_307 : decode cX10_hear 307 = .ok (.imul, 1) := by decide +kernel
theorem dX10_hear_308 : decode cX10_hear 308 = .ok (.bipush 7, 2) := by decide +kernel
theorem dX10_hear_310 : decode cX10_hear 310 = .ok (.iadd, 1) := by decide +kernel
theorem dX10_hear_311 : decode cX10_hear 311 = .ok (.aload_n 0, 1) := by decide +kernel
theorem dX10_hear_312 : decode cX10_hear 312 = .ok (.getfield 87, 3) := by decide +kernel
theorem dX10_hear_315 : decode cX10_hear 315 = .ok (.iload_n 1, 1) := by decide +kernel
theorem dX10_hear_316 : decode cX10_hear 316 = .ok (.iaload, 1) := by decide +kernel
theorem dX10_hear_317 : decode cX10_hear 317 = .ok (.iastore, 1) := by decide +kernel
theorem dX10_hear_318 : decode cX10_hear 318 = .ok (.aload_n 0, 1) := by decide +kernel
theorem dX10_hear_319 : decode cX10_hear 319 = .ok (.getfield 123, 3) := by decide +kernel
theorem dX10_hear_322 : decode cX10_hear 322 = .ok (.iload_n 1, 1) := by decide +kernel
theorem dX10_hear_323 : decode cX10_hear 323 = .ok (.aload_n 0, 1) := by decide +kernel
theorem dX10_hear_324 : decode cX10_hear 324 = .ok (.iload_n 1, 1) := by decide +kernel
theorem dX10_hear_325 : decode cX10_hear 325 = .ok (.aload_n 0, 1) := by decide +kernel
theorem dX10_hear_326 : decode cX10_hear 326 = .ok (.getfield 102, 3) := by decide +kernel
theorem dX10_hear_329 : decode cX10_hear 329 = .ok (.iload_n 1, 1) := by decide +kernel
theorem dX10_hear_330 : decode cX10_hear 330 = .ok (.iaload, 1) := by decide +kernel
theorem dX10_hear_331 : decode cX10_hear 331 = .ok (.invokevirtual 395, 3) := by decide +kernel
theorem dX10_hear_334 : decode cX10_hear 334 = .ok (.iastore, 1) := by decide +kernel
theorem dX10_hear_335 : decode cX10_hear 335 = .ok (.aload_n 0, 1) := by decide +kernel
theorem dX10_hear_336 : decode cX10_hear 336 = .ok (.getfield 123, 3) := by decide +kernel
theorem dX10_hear_339 : decode cX10_hear 339 = .ok (.iload_n 1, 1) := by decide +kernel
theorem dX10_hear_340 : decode cX10_hear 340 = .ok (.iaload, 1) := by decide +kernel
theorem dX10_hear_341 : decode cX10_hear 341 = .ok (.ireturn, 1) := by decide +kernel
set_option maxHeartbeats 4000000 in
set_option maxRecDepth 100000 in
theorem t_X10_hear (l : Launch) (dC : Nat → ClassId) (dI : Nat → Nat → Nat) (dA : Nat → ClassId) (L : List Nat) (h : hx_h) (sz : Nat) (x : Nat) (i1 : Int32) (i2 : Int32) (i3 : Int32) (i4 : Int32) (hT : hx_T T_tb L h) (gx : hx_g L h x 10) (qn : Nat) (gqn : hx_g L h qn 51) (f_x_4 : h.2.2 x 4 = some qn) (qp : Nat) (gqp : hx_g L h qp 52) (f_x_5 : h.2.2 x 5 = some qp) (qh : Nat) (gqh : hx_g L h qh 82) (f_x_47 : h.2.2 x 47 = some qh) (qc : Nat) (gqc : hx_g L h qc 79) (f_x_44 : h.2.2 x 44 = some qc) (psf : Nat → Int32) (af_qn : h.2.1 qn = psf) (prf : Nat → Int32) (af_qp : h.2.1 qp = prf) (hf : Nat → Int32) (af_qh : h.2.1 qh = hf) (plf : Nat → Int32) (af_qc : h.2.1 qc = plf) (a0 : Int32) (f_x_1 : h.2.1 x 1 = a0) (c0 : Int32) (f_x_36 : h.2.1 x 36 = c0) (m0 : Int32) (f_x_57 : h.2.1 x 57 = m0) (hRP : hx_RP prf psf a0.toInt) (hPL : hx_PL plf c0.toInt a0.toInt) (hHC : m0.toInt = hx_hc hf c0.toInt.toNat) : Met l yX10_hear (Cond.code yX10_hear cX10_hear 6 (some .int) :: hx_all) ({ frames := 3, cells := 0, slots := 0, locals := 73 }) (va_Pc [.ref x, .int i1, .int i2, .int i3, .int i4] (hx_B T_tb (P_ty dA) (dC, dI) vwCl L h sz)) (va_Qi (fun (r : Int32) (u : List Nat × hx_h) => (∃ (m1 : Int32) (hf1 : Nat → Int32), u.2.2.1 x 57 = m1 ∧ u.2.2.1 qh = hf1 ∧ (m1.toInt = hx_hc hf1 c0.toInt.toNat)) ∧ hx_T T_tb u.1 u.2 ∧ hx_S T_tb [(10, 57), (71, 0), (82, 0), (86, 0), (87, 0), (88, 0), (92, 0), (98, 0), (99, 0)] L h u.1 u.2) (hx_E T_tb (P_ty dA) (dC, dI) vwCl (hx_A L sz)) (hx_A L sz)) 0 0 (hx_A L sz) := by
  refine hx_met (lv := [(0, .ref x), (1, .int i1), (2, .int i2), (3, .int i3), (4, .int i4)]) (by decide +kernel) rfl (Nat.le_of_ble_eq_true rfl) rfl ?_
  intro p e s m below meth c hx hb hml hr hlk hts0 hown hin hsz hW ls hl
  have hts : ∀ w ∈ hx_all, w.before _ s = true := fun w hw => hts0 w (List.mem_cons_of_mem _ hw)
  have hown : s.vm.findClass "SmallCourtModel" = some m.cls := hown
  have hM : hx_S T_tb [(10, 57), (71, 0), (82, 0), (86, 0), (87, 0), (88, 0), (92, 0), (98, 0), (99, 0)] L h L h := hx_S.rf
  have b_a0 := hT.gi gx tt_10 (k := 1) rfl
  rw [f_x_1] at b_a0
  have b_a0 : 0 ≤ a0.toInt ∧ a0.toInt ≤ 8 := b_a0
  have b_c0 := hT.gi gx tt_10 (k := 36) rfl
  rw [f_x_36] at b_c0
  have b_c0 : 0 ≤ c0.toInt ∧ c0.toInt ≤ 100 := b_c0
  have b_m0 := hT.gi gx tt_10 (k := 57) rfl
  rw [f_x_57] at b_m0
  have b_m0 : 0 ≤ m0.toInt ∧ m0.toInt ≤ 100 := b_m0
  refine lv_aload_n hx hb dX10_hear_0 rfl (lv_at hl 0 rfl) ?_
  refine lv_iload_n hx hb dX10_hear_1 rfl (lv_at hl 1 rfl) ?_
  refine hx_goi (hx_runV (As := [.int i1]) (rest := []) ⟨hx, hb, hml, hown, hts⟩ hW gx tt_10 (T := TX10) (N := 98) rfl (t_X10_isClaim l dC dI dA L h s.heap.size x i1 hT gx c0 f_x_36) (cwV 1 hts (hx_gV kw_1597 kw_1594 kw_1596 kw_73 kw_103) rfl rfl rfl (by decide +kernel) ⟨Nat.le_of_ble_eq_true rfl, Nat.le_of_ble_eq_true rfl⟩) rfl hl.1 rfl (Nat.le_of_ble_eq_true rfl) dX10_hear_2 ⟨Nat.le_of_ble_eq_true rfl, Nat.le_of_ble_eq_true rfl⟩) hW (fun r_3 L_1 h_2 H locs p_4 hW => ?_)
  obtain ⟨hr_5, hT, hs⟩ := p_4
  have hT : hx_T T_tb L_1 h_2 := hT
  have hs : hx_S T_tb [] L h L_1 h_2 := hs
  have f_x_4 := (hs.o gx trivial rfl).2.trans f_x_4
  have f_x_5 := (hs.o gx trivial rfl).2.trans f_x_5
  have f_x_47 := (hs.o gx trivial rfl).2.trans f_x_47
  have f_x_44 := (hs.o gx trivial rfl).2.trans f_x_44
  have f_x_1 := (hs.o gx trivial rfl).1.trans f_x_1
  have f_x_36 := (hs.o gx trivial rfl).1.trans f_x_36
  have f_x_57 := (hs.o gx trivial rfl).1.trans f_x_57
  have af_qn : h_2.2.1 qn = psf := (funext fun j => (hs.a gqn rfl j).1).trans af_qn
  have af_qp : h_2.2.1 qp = prf := (funext fun j => (hs.a gqp rfl j).1).trans af_qp
  have af_qh : h_2.2.1 qh = hf := (funext fun j => (hs.a gqh rfl j).1).trans af_qh
  have af_qc : h_2.2.1 qc = plf := (funext fun j => (hs.a gqc rfl j).1).trans af_qc
  have hM := hM.tr (hs.mono (by decide))
  have gx := gx.S hs
  have gqn := gqn.S hs
  have gqp := gqp.S hs
  have gqh := gqh.S hs
  have gqc := gqc.S hs
  refine hb_if_eq (zx := r_3.toInt) (tgt := 47) hx hb rfl dX10_hear_5 (by decide) (fun c_6 => ?_) (fun c_6 => ?_)
  · skip
    refine lv_iconst (v := -1) hx hb dX10_hear_47 (by decide) ?_
    exact hx_reti hx hb hr hlk hW ⟨⟨m0, hf, f_x_57, af_qh, hHC⟩, hT, hM⟩ dX10_hear_48
  · skip
    refine lv_aload_n hx hb dX10_hear_8 rfl (lv_at hl 0 rfl) ?_
    refine hx_getn hx hb hts hC_10 hown hW hT gx tt_10 46 (by decide) rfl kw_1189 ⟨rfl, rfl, rfl⟩ dX10_hear_9 (fun q_7 fq_7 gq_7 => ?_)
    refine lv_iload_n hx hb dX10_hear_12 rfl (lv_at hl 1 rfl) ?_
    refine hx_iald hx hb hW hT gq_7 tt_81 rfl ⟨by omega, by omega⟩ dX10_hear_13 (fun x_8 ex_8 lx_8 ux_8 => ?_)
    refine lv_iconst (v := -1) hx hb dX10_hear_14 (by decide) ?_
    refine hb_icmp_eq (zx := x_8.toInt) (zy := (-1)) (tgt := 47) hx hb rfl (by decide) dX10_hear_15 (by decide) (fun c_9 => ?_) (fun c_9 => ?_)
    · skip
      refine lv_iconst (v := -1) hx hb dX10_hear_47 (by decide) ?_
      exact hx_reti hx hb hr hlk hW ⟨⟨m0, hf, f_x_57, af_qh, hHC⟩, hT, hM⟩ dX10_hear_48
    · skip
      refine lv_aload_n hx hb dX10_hear_18 rfl (lv_at hl 0 rfl) ?_
      refine hk_getr hx hb hts hC_10 hown hW gx tt_10 47 (by decide) rfl kw_1190 ⟨rfl, rfl, rfl⟩ f_x_47 dX10_hear_19 ?_
      refine lv_iload_n hx hb dX10_hear_22 rfl (lv_at hl 1 rfl) ?_
      refine hx_iald hx hb hW hT gqh tt_82 rfl ⟨by omega, by omega⟩ dX10_hear_23 (fun x_10 ex_10 lx_10 ux_10 => ?_)
      have ax_10 : x_10 = hf i1.toNatClampNeg := ex_10.trans (congrFun af_qh _)
      refine lv_iconst (v := -1) hx hb dX10_hear_24 (by decide) ?_
      refine hb_icmp_ne (zx := x_10.toInt) (zy := (-1)) (tgt := 47) hx hb rfl (by decide) dX10_hear_25 (by decide) (fun c_11 => ?_) (fun c_11 => ?_)
      · skip
        refine lv_iconst (v := -1) hx hb dX10_hear_47 (by decide) ?_
        exact hx_reti hx hb hr hlk hW ⟨⟨m0, hf, f_x_57, af_qh, hHC⟩, hT, hM⟩ dX10_hear_48
      · skip
        refine lv_aload_n hx hb dX10_hear_28 rfl (lv_at hl 0 rfl) ?_
        refine hx_getn hx hb hts hC_10 hown hW hT gx tt_10 27 (by decide) rfl kw_1170 ⟨rfl, rfl, rfl⟩ dX10_hear_29 (fun q_12 fq_12 gq_12 => ?_)
        refine lv_aload_n hx hb dX10_hear_32 rfl (lv_at hl 0 rfl) ?_
        refine hx_getn hx hb hts hC_10 hown hW hT gx tt_10 38 (by decide) rfl kw_1181 ⟨rfl, rfl, rfl⟩ dX10_hear_33 (fun q_13 fq_13 gq_13 => ?_)
        refine lv_iload_n hx hb dX10_hear_36 rfl (lv_at hl 1 rfl) ?_
        refine hx_iald hx hb hW hT gq_13 tt_73 rfl ⟨by omega, by omega⟩ dX10_hear_37 (fun x_14 ex_14 lx_14 ux_14 => ?_)
        refine hx_zald hx hb hW hT gq_12 tt_64 rfl ⟨by omega, by omega⟩ dX10_hear_38 (fun x_15 ex_15 lx_15 ux_15 => ?_)
        refine hb_if_ne (zx := x_15.toInt) (tgt := 47) hx hb rfl dX10_hear_39 (by decide) (fun c_16 => ?_) (fun c_16 => ?_)
        · skip
          refine lv_iconst (v := -1) hx hb dX10_hear_47 (by decide) ?_
          exact hx_reti hx hb hr hlk hW ⟨⟨m0, hf, f_x_57, af_qh, hHC⟩, hT, hM⟩ dX10_hear_48
        · skip
          refine lv_iload hx hb dX10_hear_42 (lv_at hl 4 rfl) ?_
          refine hb_if_ge (zx := i4.toInt) (tgt := 49) hx hb rfl dX10_hear_44 (by decide) (fun c_17 => ?_) (fun c_17 => ?_)
          · skip
            refine lv_aload_n hx hb dX10_hear_49 rfl (lv_at hl 0 rfl) ?_
            refine lv_iload_n hx hb dX10_hear_50 rfl (lv_at hl 1 rfl) ?_
            refine hx_goi (hx_runV (As := [.int i1]) (rest := []) ⟨hx, hb, hml, hown, hts⟩ hW gx tt_10 (T := TX10) (N := 98) rfl (t_X10_sits l dC dI dA L_1 h_2 H.size x i1 hT gx ⟨by omega, by omega⟩) (cwV 1 hts (hx_gV kw_1605 kw_1602 kw_1604 kw_74 kw_103) rfl rfl rfl (by decide +kernel) ⟨Nat.le_of_ble_eq_true rfl, Nat.le_of_ble_eq_true rfl⟩) rfl hl.1 rfl (Nat.le_of_ble_eq_true rfl) dX10_hear_51 ⟨Nat.le_of_ble_eq_true rfl, Nat.le_of_ble_eq_true rfl⟩) hW (fun r_20 L_18 h_19 H locs p_21 hW => ?_)
            obtain ⟨hr_22, hT, hs⟩ := p_21
            have hT : hx_T T_tb L_18 h_19 := hT
            have hs : hx_S T_tb [(98, 0)] L_1 h_2 L_18 h_19 := hs
            have f_x_4 := (hs.o gx trivial rfl).2.trans f_x_4
            have f_x_5 := (hs.o gx trivial rfl).2.trans f_x_5
            have f_x_47 := (hs.o gx trivial rfl).2.trans f_x_47
            have f_x_44 := (hs.o gx trivial rfl).2.trans f_x_44
            have f_x_1 := (hs.o gx trivial rfl).1.trans f_x_1
            have f_x_36 := (hs.o gx trivial rfl).1.trans f_x_36
            have f_x_57 := (hs.o gx trivial rfl).1.trans f_x_57
            have fq_7 := (hs.o gx trivial rfl).2.trans fq_7
            have fq_12 := (hs.o gx trivial rfl).2.trans fq_12
            have fq_13 := (hs.o gx trivial rfl).2.trans fq_13
            have af_qn : h_19.2.1 qn = psf := (funext fun j => (hs.a gqn rfl j).1).trans af_qn
            have af_qp : h_19.2.1 qp = prf := (funext fun j => (hs.a gqp rfl j).1).trans af_qp
            have af_qh : h_19.2.1 qh = hf := (funext fun j => (hs.a gqh rfl j).1).trans af_qh
            have af_qc : h_19.2.1 qc = plf := (funext fun j => (hs.a gqc rfl j).1).trans af_qc
            have ex_8 := ex_8.trans (hs.a gq_7 rfl _).1.symm
            have ex_10 := ex_10.trans (hs.a gqh rfl _).1.symm
            have ex_14 := ex_14.trans (hs.a gq_13 rfl _).1.symm
            have ex_15 := ex_15.trans (hs.a gq_12 rfl _).1.symm
            have hM := hM.tr (hs.mono (by decide))
            have gx := gx.S hs
            have gqn := gqn.S hs
            have gqp := gqp.S hs
            have gqh := gqh.S hs
            have gqc := gqc.S hs
            have gq_7 := gq_7.S hs
            have gq_12 := gq_12.S hs
            have gq_13 := gq_13.S hs
            refine lv_istore (lv' := [(5, .int r_20), (0, .ref x), (1, .int i1), (2, .int i2), (3, .int i3), (4, .int i4)]) hx hb dX10_hear_54 hl (by decide) rfl (fun ls hl => ?_)
            refine lv_iload hx hb dX10_hear_56 (lv_at hl 0 rfl) ?_
            refine lv_iconst (v := 3) hx hb dX10_hear_58 (by decide) ?_
            refine hb_icmp_ge (zx := r_20.toInt) (zy := 3) (tgt := 64) hx hb rfl (by decide) dX10_hear_59 (by decide) (fun c_23 => ?_) (fun c_23 => ?_)
            · skip
              refine lv_aload_n hx hb dX10_hear_64 rfl (lv_at hl 1 rfl) ?_
              refine lv_iload_n hx hb dX10_hear_65 rfl (lv_at hl 2 rfl) ?_
              refine lv_iload hx hb dX10_hear_66 (lv_at hl 0 rfl) ?_
              refine lv_iload hx hb dX10_hear_68 (lv_at hl 5 rfl) ?_
              refine lv_iload hx hb dX10_hear_70 (lv_at hl 0 rfl) ?_
              refine lv_iload hx hb dX10_hear_72 (lv_at hl 0 rfl) ?_
              refine lv_iconst (v := 1) hx hb dX10_hear_74 (by decide) ?_
              refine lv_isub hx hb dX10_hear_75 ?_
              have rg_24 := i32_r r_20
              refine lv_topi (fun x_25 ex_25 => ?_)
              have zx_25 : x_25.toInt = r_20.toInt - 1 := by rw [ex_25]; exact i32_sub rfl (by decide) (by omega) (by omega)
              refine lv_imul hx hb dX10_hear_76 ?_
              refine lv_topi (fun x_26 ex_26 => ?_)
              have mx_26 : r_20.toInt = 0 → x_26.toInt = 0 := fun z => by rw [ex_26]; exact hx_mul0 z
              refine lv_iload hx hb dX10_hear_77 (lv_at hl 0 rfl) ?_
              refine lv_iconst (v := 2) hx hb dX10_hear_79 (by decide) ?_
              refine lv_isub hx hb dX10_hear_80 ?_
              refine lv_topi (fun x_27 ex_27 => ?_)
              have zx_27 : x_27.toInt = r_20.toInt - 2 := by rw [ex_27]; exact i32_sub rfl (by decide) (by omega) (by omega)
              refine lv_imul hx hb dX10_hear_81 ?_
              refine lv_topi (fun x_28 ex_28 => ?_)
              have mx_28 : x_26.toInt = 0 → x_28.toInt = 0 := fun z => by rw [ex_28]; exact hx_mul0 z
              refine lv_bipush (v := 6) hx hb dX10_hear_82 (by decide) ?_
              refine lv_idiv hx hb dX10_hear_84 (by decide) ?_
              refine lv_topi (fun x_29 ex_29 => ?_)
              have zx_29 : -1073741824 ≤ x_29.toInt ∧ x_29.toInt ≤ 1073741824 := by rw [ex_29]; exact hx_divb (by decide)
              have hdv : 1 ≤ x_29.toInt := by rw [ex_29, ex_28, ex_26, ex_25, ex_27]; exact hx_n6 (by omega) (by omega)
              refine lv_irem hx hb dX10_hear_85 (hx_ne0 (by omega)) ?_
              refine lv_topi (fun x_30 ex_30 => ?_)
              have zx_30 : 0 ≤ x_30.toInt ∧ x_30.toInt < x_29.toInt := by rw [ex_30]; exact hx_rem (by omega) (by omega)
              refine hx_gov (hx_runV (As := [.int i1, .int r_20, .int x_30]) (rest := []) ⟨hx, hb, hml, hown, hts⟩ hW gx tt_10 (T := TX10) (N := 98) rfl (t_X10_draws l dC dI dA L_18 h_19 H.size x i1 r_20 x_30 hT gx ⟨by omega, by omega⟩ ⟨by omega, by omega⟩) (cwV 3 hts (hx_gV kw_1613 kw_1610 kw_1612 kw_76 kw_103) rfl rfl rfl (by decide +kernel) ⟨Nat.le_of_ble_eq_true rfl, Nat.le_of_ble_eq_true rfl⟩) rfl hl.1 rfl (Nat.le_of_ble_eq_true rfl) dX10_hear_86 ⟨Nat.le_of_ble_eq_true rfl, Nat.le_of_ble_eq_true rfl⟩) hW (fun L_31 h_32 H locs p_34 hW => ?_)
              obtain ⟨hT, hs⟩ := p_34
              have hT : hx_T T_tb L_31 h_32 := hT
              have hs : hx_S T_tb [(87, 0)] L_18 h_19 L_31 h_32 := hs
              have f_x_4 := (hs.o gx trivial rfl).2.trans f_x_4
              have f_x_5 := (hs.o gx trivial rfl).2.trans f_x_5
              have f_x_47 := (hs.o gx trivial rfl).2.trans f_x_47
              have f_x_44 := (hs.o gx trivial rfl).2.trans f_x_44
              have f_x_1 := (hs.o gx trivial rfl).1.trans f_x_1
              have f_x_36 := (hs.o gx trivial rfl).1.trans f_x_36
              have f_x_57 := (hs.o gx trivial rfl).1.trans f_x_57
              have fq_7 := (hs.o gx trivial rfl).2.trans fq_7
              have fq_12 := (hs.o gx trivial rfl).2.trans fq_12
              have fq_13 := (hs.o gx trivial rfl).2.trans fq_13
              have af_qn : h_32.2.1 qn = psf := (funext fun j => (hs.a gqn rfl j).1).trans af_qn
              have af_qp : h_32.2.1 qp = prf := (funext fun j => (hs.a gqp rfl j).1).trans af_qp
              have af_qh : h_32.2.1 qh = hf := (funext fun j => (hs.a gqh rfl j).1).trans af_qh
              have af_qc : h_32.2.1 qc = plf := (funext fun j => (hs.a gqc rfl j).1).trans af_qc
              have ex_8 := ex_8.trans (hs.a gq_7 rfl _).1.symm
              have ex_10 := ex_10.trans (hs.a gqh rfl _).1.symm
              have ex_14 := ex_14.trans (hs.a gq_13 rfl _).1.symm
              have ex_15 := ex_15.trans (hs.a gq_12 rfl _).1.symm
              have hM := hM.tr (hs.mono (by decide))
              have gx := gx.S hs
              have gqn := gqn.S hs
              have gqp := gqp.S hs
              have gqh := gqh.S hs
              have gqc := gqc.S hs
              have gq_7 := gq_7.S hs
              have gq_12 := gq_12.S hs
              have gq_13 := gq_13.S hs
              have hlt := hx_hear_lt hHC (by omega) (by omega) ax_10 (by omega)
              refine lv_aload_n hx hb dX10_hear_89 rfl (lv_at hl 1 rfl) ?_
              refine hk_getr hx hb hts hC_10 hown hW gx tt_10 47 (by decide) rfl kw_1190 ⟨rfl, rfl, rfl⟩ f_x_47 dX10_hear_90 ?_
              refine lv_iload_n hx hb dX10_hear_93 rfl (lv_at hl 2 rfl) ?_
              refine lv_aload_n hx hb dX10_hear_94 rfl (lv_at hl 1 rfl) ?_
              refine hx_geti hx hb hts hC_10 hown hW hT gx tt_10 0 (by decide) rfl kw_1143 ⟨rfl, rfl, rfl⟩ dX10_hear_95 (fun x_36 ex_36 lx_36 ux_36 => ?_)
              have fx_36 := ex_36.symm
              have af_qhO := af_qh
              refine hx_iast hx hb hW hT (hx_S.rf (M := [(82, 0)])) gqh tt_82 rfl ⟨by omega, by omega⟩ rfl ⟨by omega, by omega⟩ (List.mem_singleton.mpr rfl) dX10_hear_98 (fun H locs h_37 eh_37 hW hT hs => ?_)
              have f_x_4 := (hs.o gx trivial rfl).2.trans f_x_4
              have f_x_5 := (hs.o gx trivial rfl).2.trans f_x_5
              have f_x_47 := (hs.o gx trivial rfl).2.trans f_x_47
              have f_x_44 := (hs.o gx trivial rfl).2.trans f_x_44
              have f_x_1 := (hs.o gx trivial rfl).1.trans f_x_1
              have f_x_36 := (hs.o gx trivial rfl).1.trans f_x_36
              have f_x_57 := (hs.o gx trivial rfl).1.trans f_x_57
              have fq_7 := (hs.o gx trivial rfl).2.trans fq_7
              have fq_12 := (hs.o gx trivial rfl).2.trans fq_12
              have fq_13 := (hs.o gx trivial rfl).2.trans fq_13
              have fx_36 := (hs.o gx trivial rfl).1.trans fx_36
              have af_qn : h_37.2.1 qn = psf := (funext fun j => (hs.a gqn rfl j).1).trans af_qn
              have af_qp : h_37.2.1 qp = prf := (funext fun j => (hs.a gqp rfl j).1).trans af_qp
              have af_qc : h_37.2.1 qc = plf := (funext fun j => (hs.a gqc rfl j).1).trans af_qc
              have ex_8 := ex_8.trans (hs.a gq_7 rfl _).1.symm
              have ex_14 := ex_14.trans (hs.a gq_13 rfl _).1.symm
              have ex_15 := ex_15.trans (hs.a gq_12 rfl _).1.symm
              have hM := hM.tr (hs.mono (by decide))
              have gx := gx.S hs
              have gqn := gqn.S hs
              have gqp := gqp.S hs
              have gqh := gqh.S hs
              have gqc := gqc.S hs
              have gq_7 := gq_7.S hs
              have gq_12 := gq_12.S hs
              have gq_13 := gq_13.S hs
              obtain ⟨fa_38, dfa_38⟩ : ∃ g : Nat → Int32, g = hx_up hf i1.toNatClampNeg x_36 := ⟨_, rfl⟩
              have nfa_38 : h_37.2.1 qh = fa_38 := by rw [eh_37, dfa_38, ← af_qhO]; exact hx_pi_fun _ _ _ _
              refine lv_aload_n hx hb dX10_hear_99 rfl (lv_at hl 1 rfl) ?_
              refine hx_getn hx hb hts hC_10 hown hW hT gx tt_10 58 (by decide) rfl kw_1201 ⟨rfl, rfl, rfl⟩ dX10_hear_100 (fun q_39 fq_39 gq_39 => ?_)
              refine lv_aload_n hx hb dX10_hear_103 rfl (lv_at hl 1 rfl) ?_
              refine hk_geti hx hb hts hC_10 hown hW gx tt_10 57 (by decide) rfl kw_1200 ⟨rfl, rfl, rfl⟩ f_x_57 dX10_hear_104 ?_
              refine lv_iload_n hx hb dX10_hear_107 rfl (lv_at hl 2 rfl) ?_
              refine hx_iast hx hb hW hT (hx_S.rf (M := [(92, 0)])) gq_39 tt_92 rfl ⟨by omega, by omega⟩ rfl ⟨by omega, by omega⟩ (List.mem_singleton.mpr rfl) dX10_hear_108 (fun H locs h_40 eh_40 hW hT hs => ?_)
              have f_x_4 := (hs.o gx trivial rfl).2.trans f_x_4
              have f_x_5 := (hs.o gx trivial rfl).2.trans f_x_5
              have f_x_47 := (hs.o gx trivial rfl).2.trans f_x_47
              have f_x_44 := (hs.o gx trivial rfl).2.trans f_x_44
              have f_x_1 := (hs.o gx trivial rfl).1.trans f_x_1
              have f_x_36 := (hs.o gx trivial rfl).1.trans f_x_36
              have f_x_57 := (hs.o gx trivial rfl).1.trans f_x_57
              have fq_7 := (hs.o gx trivial rfl).2.trans fq_7
              have fq_12 := (hs.o gx trivial rfl).2.trans fq_12
              have fq_13 := (hs.o gx trivial rfl).2.trans fq_13
              have fx_36 := (hs.o gx trivial rfl).1.trans fx_36
              have fq_39 := (hs.o gx trivial rfl).2.trans fq_39
              have af_qn : h_40.2.1 qn = psf := (funext fun j => (hs.a gqn rfl j).1).trans af_qn
              have af_qp : h_40.2.1 qp = prf := (funext fun j => (hs.a gqp rfl j).1).trans af_qp
              have af_qc : h_40.2.1 qc = plf := (funext fun j => (hs.a gqc rfl j).1).trans af_qc
              have nfa_38 : h_40.2.1 qh = fa_38 := (funext fun j => (hs.a gqh rfl j).1).trans nfa_38
              have ex_8 := ex_8.trans (hs.a gq_7 rfl _).1.symm
              have ex_14 := ex_14.trans (hs.a gq_13 rfl _).1.symm
              have ex_15 := ex_15.trans (hs.a gq_12 rfl _).1.symm
              have hM := hM.tr (hs.mono (by decide))
              have gx := gx.S hs
              have gqn := gqn.S hs
              have gqp := gqp.S hs
              have gqh := gqh.S hs
              have gqc := gqc.S hs
              have gq_7 := gq_7.S hs
              have gq_12 := gq_12.S hs
              have gq_13 := gq_13.S hs
              have gq_39 := gq_39.S hs
              refine lv_aload_n hx hb dX10_hear_109 rfl (lv_at hl 1 rfl) ?_
              refine lv_dup hx hb dX10_hear_110 rfl ?_
              refine hk_geti hx hb hts hC_10 hown hW gx tt_10 57 (by decide) rfl kw_1200 ⟨rfl, rfl, rfl⟩ f_x_57 dX10_hear_111 ?_
              refine lv_iconst (v := 1) hx hb dX10_hear_114 (by decide) ?_
              refine lv_iadd hx hb dX10_hear_115 ?_
              have rg_41 := i32_r m0
              refine lv_topi (fun x_42 ex_42 => ?_)
              have zx_42 : x_42.toInt = m0.toInt + 1 := by rw [ex_42]; exact i32_add rfl (by decide) (by omega) (by omega)
              refine hx_puti hx hb hts hC_10 hown hW hT (hx_S.rf (M := [(10, 57)])) gx tt_10 57 (by decide) rfl kw_1200 ⟨rfl, rfl, rfl⟩ rfl (x := x_42) ⟨by omega, by omega⟩ rfl rfl rfl (List.mem_singleton.mpr rfl) dX10_hear_116 (fun H locs h_43 eh_43 hW hT hs => ?_)
              have f_x_4 := (hs.o gx trivial rfl).2.trans f_x_4
              have f_x_5 := (hs.o gx trivial rfl).2.trans f_x_5
              have f_x_47 := (hs.o gx trivial rfl).2.trans f_x_47
              have f_x_44 := (hs.o gx trivial rfl).2.trans f_x_44
              have f_x_1 := (hs.o gx trivial rfl).1.trans f_x_1
              have f_x_36 := (hs.o gx trivial rfl).1.trans f_x_36
              have fq_7 := (hs.o gx trivial rfl).2.trans fq_7
              have fq_12 := (hs.o gx trivial rfl).2.trans fq_12
              have fq_13 := (hs.o gx trivial rfl).2.trans fq_13
              have fx_36 := (hs.o gx trivial rfl).1.trans fx_36
              have fq_39 := (hs.o gx trivial rfl).2.trans fq_39
              have af_qn : h_43.2.1 qn = psf := (funext fun j => (hs.a gqn rfl j).1).trans af_qn
              have af_qp : h_43.2.1 qp = prf := (funext fun j => (hs.a gqp rfl j).1).trans af_qp
              have af_qc : h_43.2.1 qc = plf := (funext fun j => (hs.a gqc rfl j).1).trans af_qc
              have nfa_38 : h_43.2.1 qh = fa_38 := (funext fun j => (hs.a gqh rfl j).1).trans nfa_38
              have ex_8 := ex_8.trans (hs.a gq_7 rfl _).1.symm
              have ex_14 := ex_14.trans (hs.a gq_13 rfl _).1.symm
              have ex_15 := ex_15.trans (hs.a gq_12 rfl _).1.symm
              have hM := hM.tr (hs.mono (by decide))
              have gx := gx.S hs
              have gqn := gqn.S hs
              have gqp := gqp.S hs
              have gqh := gqh.S hs
              have gqc := gqc.S hs
              have gq_7 := gq_7.S hs
              have gq_12 := gq_12.S hs
              have gq_13 := gq_13.S hs
              have gq_39 := gq_39.S hs
              have f_44 : h_43.2.1 x 57 = x_42 := by rw [eh_43]; exact hx_pi_at _ _ _ _
              refine lv_aload_n hx hb dX10_hear_119 rfl (lv_at hl 1 rfl) ?_
              refine hx_getn hx hb hts hC_10 hown hW hT gx tt_10 53 (by decide) rfl kw_1196 ⟨rfl, rfl, rfl⟩ dX10_hear_120 (fun q_45 fq_45 gq_45 => ?_)
              refine lv_bipush (v := 8) hx hb dX10_hear_123 (by decide) ?_
              refine lv_iload_n hx hb dX10_hear_125 rfl (lv_at hl 2 rfl) ?_
              refine lv_imul hx hb dX10_hear_126 ?_
              refine lv_topi (fun x_46 ex_46 => ?_)
              have zx_46 : x_46.toInt = 8 * i1.toInt := by rw [ex_46]; exact i32_mul (by decide) rfl rfl (by omega) (by omega)
              refine lv_iload_n hx hb dX10_hear_127 rfl (lv_at hl 3 rfl) ?_
              have jn_136 : ∀ (xj_47 : Int32) (ls : Array Slot), 0 ≤ xj_47.toInt → xj_47.toInt ≤ 1 → lv_has ls 6 [(5, .int r_20), (0, .ref x), (1, .int i1), (2, .int i2), (3, .int i3), (4, .int i4)] → W p l e ({ frames := 3, cells := 0, slots := 0, locals := 73 }) s m ([.ref x, .int i1, .int i2, .int i3, .int i4] : List Value).toArray below meth c H locs 0 0 (MQ below (va_Qi (fun (r : Int32) (u : List Nat × hx_h) => (∃ (m1 : Int32) (hf1 : Nat → Int32), u.2.2.1 x 57 = m1 ∧ u.2.2.1 qh = hf1 ∧ (m1.toInt = hx_hc hf1 c0.toInt.toNat)) ∧ hx_T T_tb u.1 u.2 ∧ hx_S T_tb [(10, 57), (71, 0), (82, 0), (86, 0), (87, 0), (88, 0), (92, 0), (98, 0), (99, 0)] L h u.1 u.2) (hx_E T_tb (P_ty dA) (dC, dI) vwCl (hx_A L sz)) (hx_A L sz)) ([.ref x, .int i1, .int i2, .int i3, .int i4] : List Value).toArray s 0 0 (hx_A L sz)) (F0 m 136 ls [.int xj_47, .int x_46, .ref q_45]) := by
                intro xj_47 ls blxj_47 buxj_47 hl
                refine hx_iast hx hb hW hT (hx_S.rf (M := [(88, 0)])) gq_45 tt_88 rfl ⟨by omega, by omega⟩ rfl (i32_r _) (List.mem_singleton.mpr rfl) dX10_hear_136 (fun H locs h_48 eh_48 hW hT hs => ?_)
                have f_x_4 := (hs.o gx trivial rfl).2.trans f_x_4
                have f_x_5 := (hs.o gx trivial rfl).2.trans f_x_5
                have f_x_47 := (hs.o gx trivial rfl).2.trans f_x_47
                have f_x_44 := (hs.o gx trivial rfl).2.trans f_x_44
                have f_x_1 := (hs.o gx trivial rfl).1.trans f_x_1
                have f_x_36 := (hs.o gx trivial rfl).1.trans f_x_36
                have fq_7 := (hs.o gx trivial rfl).2.trans fq_7
                have fq_12 := (hs.o gx trivial rfl).2.trans fq_12
                have fq_13 := (hs.o gx trivial rfl).2.trans fq_13
                have fx_36 := (hs.o gx trivial rfl).1.trans fx_36
                have fq_39 := (hs.o gx trivial rfl).2.trans fq_39
                have f_44 := (hs.o gx trivial rfl).1.trans f_44
                have fq_45 := (hs.o gx trivial rfl).2.trans fq_45
                have af_qn : h_48.2.1 qn = psf := (funext fun j => (hs.a gqn rfl j).1).trans af_qn
                have af_qp : h_48.2.1 qp = prf := (funext fun j => (hs.a gqp rfl j).1).trans af_qp
                have af_qc : h_48.2.1 qc = plf := (funext fun j => (hs.a gqc rfl j).1).trans af_qc
                have nfa_38 : h_48.2.1 qh = fa_38 := (funext fun j => (hs.a gqh rfl j).1).trans nfa_38
                have ex_8 := ex_8.trans (hs.a gq_7 rfl _).1.symm
                have ex_14 := ex_14.trans (hs.a gq_13 rfl _).1.symm
                have ex_15 := ex_15.trans (hs.a gq_12 rfl _).1.symm
                have hM := hM.tr (hs.mono (by decide))
                have gx := gx.S hs
                have gqn := gqn.S hs
                have gqp := gqp.S hs
                have gqh := gqh.S hs
                have gqc := gqc.S hs
                have gq_7 := gq_7.S hs
                have gq_12 := gq_12.S hs
                have gq_13 := gq_13.S hs
                have gq_39 := gq_39.S hs
                have gq_45 := gq_45.S hs
                refine lv_aload_n hx hb dX10_hear_137 rfl (lv_at hl 1 rfl) ?_
                refine hk_getr hx hb hts hC_10 hown hW gx tt_10 53 (by decide) rfl kw_1196 ⟨rfl, rfl, rfl⟩ fq_45 dX10_hear_138 ?_
                refine lv_bipush (v := 8) hx hb dX10_hear_141 (by decide) ?_
                refine lv_iload_n hx hb dX10_hear_143 rfl (lv_at hl 2 rfl) ?_
                refine lv_imul hx hb dX10_hear_144 ?_
                refine lv_topi (fun x_49 ex_49 => ?_)
                have zx_49 : x_49.toInt = 8 * i1.toInt := by rw [ex_49]; exact i32_mul (by decide) rfl rfl (by omega) (by omega)
                refine lv_iconst (v := 1) hx hb dX10_hear_145 (by decide) ?_
                refine lv_iadd hx hb dX10_hear_146 ?_
                have rg_50 := i32_r x_49
                refine lv_topi (fun x_51 ex_51 => ?_)
                have zx_51 : x_51.toInt = x_49.toInt + 1 := by rw [ex_51]; exact i32_add rfl (by decide) (by omega) (by omega)
                refine lv_iload_n hx hb dX10_hear_147 rfl (lv_at hl 4 rfl) ?_
                have jn_156 : ∀ (xj_52 : Int32) (ls : Array Slot), 0 ≤ xj_52.toInt → xj_52.toInt ≤ 1 → lv_has ls 6 [(5, .int r_20), (0, .ref x), (1, .int i1), (2, .int i2), (3, .int i3), (4, .int i4)] → W p l e ({ frames := 3, cells := 0, slots := 0, locals := 73 }) s m ([.ref x, .int i1, .int i2, .int i3, .int i4] : List Value).toArray below meth c H locs 0 0 (MQ below (va_Qi (fun (r : Int32) (u : List Nat × hx_h) => (∃ (m1 : Int32) (hf1 : Nat → Int32), u.2.2.1 x 57 = m1 ∧ u.2.2.1 qh = hf1 ∧ (m1.toInt = hx_hc hf1 c0.toInt.toNat)) ∧ hx_T T_tb u.1 u.2 ∧ hx_S T_tb [(10, 57), (71, 0), (82, 0), (86, 0), (87, 0), (88, 0), (92, 0), (98, 0), (99, 0)] L h u.1 u.2) (hx_E T_tb (P_ty dA) (dC, dI) vwCl (hx_A L sz)) (hx_A L sz)) ([.ref x, .int i1, .int i2, .int i3, .int i4] : List Value).toArray s 0 0 (hx_A L sz)) (F0 m 156 ls [.int xj_52, .int x_51, .ref q_45]) := by
                  intro xj_52 ls blxj_52 buxj_52 hl
                  refine hx_iast hx hb hW hT (hx_S.rf (M := [(88, 0)])) gq_45 tt_88 rfl ⟨by omega, by omega⟩ rfl (i32_r _) (List.mem_singleton.mpr rfl) dX10_hear_156 (fun H locs h_53 eh_53 hW hT hs => ?_)
                  have f_x_4 := (hs.o gx trivial rfl).2.trans f_x_4
                  have f_x_5 := (hs.o gx trivial rfl).2.trans f_x_5
                  have f_x_47 := (hs.o gx trivial rfl).2.trans f_x_47
                  have f_x_44 := (hs.o gx trivial rfl).2.trans f_x_44
                  have f_x_1 := (hs.o gx trivial rfl).1.trans f_x_1
                  have f_x_36 := (hs.o gx trivial rfl).1.trans f_x_36
                  have fq_7 := (hs.o gx trivial rfl).2.trans fq_7
                  have fq_12 := (hs.o gx trivial rfl).2.trans fq_12
                  have fq_13 := (hs.o gx trivial rfl).2.trans fq_13
                  have fx_36 := (hs.o gx trivial rfl).1.trans fx_36
                  have fq_39 := (hs.o gx trivial rfl).2.trans fq_39
                  have f_44 := (hs.o gx trivial rfl).1.trans f_44
                  have fq_45 := (hs.o gx trivial rfl).2.trans fq_45
                  have af_qn : h_53.2.1 qn = psf := (funext fun j => (hs.a gqn rfl j).1).trans af_qn
                  have af_qp : h_53.2.1 qp = prf := (funext fun j => (hs.a gqp rfl j).1).trans af_qp
                  have af_qc : h_53.2.1 qc = plf := (funext fun j => (hs.a gqc rfl j).1).trans af_qc
                  have nfa_38 : h_53.2.1 qh = fa_38 := (funext fun j => (hs.a gqh rfl j).1).trans nfa_38
                  have ex_8 := ex_8.trans (hs.a gq_7 rfl _).1.symm
                  have ex_14 := ex_14.trans (hs.a gq_13 rfl _).1.symm
                  have ex_15 := ex_15.trans (hs.a gq_12 rfl _).1.symm
                  have hM := hM.tr (hs.mono (by decide))
                  have gx := gx.S hs
                  have gqn := gqn.S hs
                  have gqp := gqp.S hs
                  have gqh := gqh.S hs
                  have gqc := gqc.S hs
                  have gq_7 := gq_7.S hs
                  have gq_12 := gq_12.S hs
                  have gq_13 := gq_13.S hs
                  have gq_39 := gq_39.S hs
                  have gq_45 := gq_45.S hs
                  refine lv_aload_n hx hb dX10_hear_157 rfl (lv_at hl 1 rfl) ?_
                  refine hk_getr hx hb hts hC_10 hown hW gx tt_10 53 (by decide) rfl kw_1196 ⟨rfl, rfl, rfl⟩ fq_45 dX10_hear_158 ?_
                  refine lv_bipush (v := 8) hx hb dX10_hear_161 (by decide) ?_
                  refine lv_iload_n hx hb dX10_hear_163 rfl (lv_at hl 2 rfl) ?_
                  refine lv_imul hx hb dX10_hear_164 ?_
                  refine lv_topi (fun x_54 ex_54 => ?_)
                  have zx_54 : x_54.toInt = 8 * i1.toInt := by rw [ex_54]; exact i32_mul (by decide) rfl rfl (by omega) (by omega)
                  refine lv_iconst (v := 2) hx hb dX10_hear_165 (by decide) ?_
                  refine lv_iadd hx hb dX10_hear_166 ?_
                  have rg_55 := i32_r x_54
                  refine lv_topi (fun x_56 ex_56 => ?_)
                  have zx_56 : x_56.toInt = x_54.toInt + 2 := by rw [ex_56]; exact i32_add rfl (by decide) (by omega) (by omega)
                  refine lv_aload_n hx hb dX10_hear_167 rfl (lv_at hl 1 rfl) ?_
                  refine hx_getn hx hb hts hC_10 hown hW hT gx tt_10 41 (by decide) rfl kw_1184 ⟨rfl, rfl, rfl⟩ dX10_hear_168 (fun q_57 fq_57 gq_57 => ?_)
                  refine lv_iload_n hx hb dX10_hear_171 rfl (lv_at hl 2 rfl) ?_
                  refine hx_zald hx hb hW hT gq_57 tt_76 rfl ⟨by omega, by omega⟩ dX10_hear_172 (fun x_58 ex_58 lx_58 ux_58 => ?_)
                  have jn_181 : ∀ (xj_59 : Int32) (ls : Array Slot), 0 ≤ xj_59.toInt → xj_59.toInt ≤ 1 → lv_has ls 6 [(5, .int r_20), (0, .ref x), (1, .int i1), (2, .int i2), (3, .int i3), (4, .int i4)] → W p l e ({ frames := 3, cells := 0, slots := 0, locals := 73 }) s m ([.ref x, .int i1, .int i2, .int i3, .int i4] : List Value).toArray below meth c H locs 0 0 (MQ below (va_Qi (fun (r : Int32) (u : List Nat × hx_h) => (∃ (m1 : Int32) (hf1 : Nat → Int32), u.2.2.1 x 57 = m1 ∧ u.2.2.1 qh = hf1 ∧ (m1.toInt = hx_hc hf1 c0.toInt.toNat)) ∧ hx_T T_tb u.1 u.2 ∧ hx_S T_tb [(10, 57), (71, 0), (82, 0), (86, 0), (87, 0), (88, 0), (92, 0), (98, 0), (99, 0)] L h u.1 u.2) (hx_E T_tb (P_ty dA) (dC, dI) vwCl (hx_A L sz)) (hx_A L sz)) ([.ref x, .int i1, .int i2, .int i3, .int i4] : List Value).toArray s 0 0 (hx_A L sz)) (F0 m 181 ls [.int xj_59, .int x_56, .ref q_45]) := by
                    intro xj_59 ls blxj_59 buxj_59 hl
                    refine hx_iast hx hb hW hT (hx_S.rf (M := [(88, 0)])) gq_45 tt_88 rfl ⟨by omega, by omega⟩ rfl (i32_r _) (List.mem_singleton.mpr rfl) dX10_hear_181 (fun H locs h_60 eh_60 hW hT hs => ?_)
                    have f_x_4 := (hs.o gx trivial rfl).2.trans f_x_4
                    have f_x_5 := (hs.o gx trivial rfl).2.trans f_x_5
                    have f_x_47 := (hs.o gx trivial rfl).2.trans f_x_47
                    have f_x_44 := (hs.o gx trivial rfl).2.trans f_x_44
                    have f_x_1 := (hs.o gx trivial rfl).1.trans f_x_1
                    have f_x_36 := (hs.o gx trivial rfl).1.trans f_x_36
                    have fq_7 := (hs.o gx trivial rfl).2.trans fq_7
                    have fq_12 := (hs.o gx trivial rfl).2.trans fq_12
                    have fq_13 := (hs.o gx trivial rfl).2.trans fq_13
                    have fx_36 := (hs.o gx trivial rfl).1.trans fx_36
                    have fq_39 := (hs.o gx trivial rfl).2.trans fq_39
                    have f_44 := (hs.o gx trivial rfl).1.trans f_44
                    have fq_45 := (hs.o gx trivial rfl).2.trans fq_45
                    have fq_57 := (hs.o gx trivial rfl).2.trans fq_57
                    have af_qn : h_60.2.1 qn = psf := (funext fun j => (hs.a gqn rfl j).1).trans af_qn
                    have af_qp : h_60.2.1 qp = prf := (funext fun j => (hs.a gqp rfl j).1).trans af_qp
                    have af_qc : h_60.2.1 qc = plf := (funext fun j => (hs.a gqc rfl j).1).trans af_qc
                    have nfa_38 : h_60.2.1 qh = fa_38 := (funext fun j => (hs.a gqh rfl j).1).trans nfa_38
                    have ex_8 := ex_8.trans (hs.a gq_7 rfl _).1.symm
                    have ex_14 := ex_14.trans (hs.a gq_13 rfl _).1.symm
                    have ex_15 := ex_15.trans (hs.a gq_12 rfl _).1.symm
                    have ex_58 := ex_58.trans (hs.a gq_57 rfl _).1.symm
                    have hM := hM.tr (hs.mono (by decide))
                    have gx := gx.S hs
                    have gqn := gqn.S hs
                    have gqp := gqp.S hs
                    have gqh := gqh.S hs
                    have gqc := gqc.S hs
                    have gq_7 := gq_7.S hs
                    have gq_12 := gq_12.S hs
                    have gq_13 := gq_13.S hs
                    have gq_39 := gq_39.S hs
                    have gq_45 := gq_45.S hs
                    have gq_57 := gq_57.S hs
                    refine lv_aload_n hx hb dX10_hear_182 rfl (lv_at hl 1 rfl) ?_
                    refine hk_getr hx hb hts hC_10 hown hW gx tt_10 53 (by decide) rfl kw_1196 ⟨rfl, rfl, rfl⟩ fq_45 dX10_hear_183 ?_
                    refine lv_bipush (v := 8) hx hb dX10_hear_186 (by decide) ?_
                    refine lv_iload_n hx hb dX10_hear_188 rfl (lv_at hl 2 rfl) ?_
                    refine lv_imul hx hb dX10_hear_189 ?_
                    refine lv_topi (fun x_61 ex_61 => ?_)
                    have zx_61 : x_61.toInt = 8 * i1.toInt := by rw [ex_61]; exact i32_mul (by decide) rfl rfl (by omega) (by omega)
                    refine lv_iconst (v := 3) hx hb dX10_hear_190 (by decide) ?_
                    refine lv_iadd hx hb dX10_hear_191 ?_
                    have rg_62 := i32_r x_61
                    refine lv_topi (fun x_63 ex_63 => ?_)
                    have zx_63 : x_63.toInt = x_61.toInt + 3 := by rw [ex_63]; exact i32_add rfl (by decide) (by omega) (by omega)
                    refine lv_aload_n hx hb dX10_hear_192 rfl (lv_at hl 1 rfl) ?_
                    refine hx_getn hx hb hts hC_10 hown hW hT gx tt_10 42 (by decide) rfl kw_1185 ⟨rfl, rfl, rfl⟩ dX10_hear_193 (fun q_64 fq_64 gq_64 => ?_)
                    refine lv_iload_n hx hb dX10_hear_196 rfl (lv_at hl 2 rfl) ?_
                    refine hx_iald hx hb hW hT gq_64 tt_77 rfl ⟨by omega, by omega⟩ dX10_hear_197 (fun x_65 ex_65 lx_65 ux_65 => ?_)
                    refine hx_iast hx hb hW hT (hx_S.rf (M := [(88, 0)])) gq_45 tt_88 rfl ⟨by omega, by omega⟩ rfl (i32_r _) (List.mem_singleton.mpr rfl) dX10_hear_198 (fun H locs h_66 eh_66 hW hT hs => ?_)
                    have f_x_4 := (hs.o gx trivial rfl).2.trans f_x_4
                    have f_x_5 := (hs.o gx trivial rfl).2.trans f_x_5
                    have f_x_47 := (hs.o gx trivial rfl).2.trans f_x_47
                    have f_x_44 := (hs.o gx trivial rfl).2.trans f_x_44
                    have f_x_1 := (hs.o gx trivial rfl).1.trans f_x_1
                    have f_x_36 := (hs.o gx trivial rfl).1.trans f_x_36
                    have fq_7 := (hs.o gx trivial rfl).2.trans fq_7
                    have fq_12 := (hs.o gx trivial rfl).2.trans fq_12
                    have fq_13 := (hs.o gx trivial rfl).2.trans fq_13
                    have fx_36 := (hs.o gx trivial rfl).1.trans fx_36
                    have fq_39 := (hs.o gx trivial rfl).2.trans fq_39
                    have f_44 := (hs.o gx trivial rfl).1.trans f_44
                    have fq_45 := (hs.o gx trivial rfl).2.trans fq_45
                    have fq_57 := (hs.o gx trivial rfl).2.trans fq_57
                    have fq_64 := (hs.o gx trivial rfl).2.trans fq_64
                    have af_qn : h_66.2.1 qn = psf := (funext fun j => (hs.a gqn rfl j).1).trans af_qn
                    have af_qp : h_66.2.1 qp = prf := (funext fun j => (hs.a gqp rfl j).1).trans af_qp
                    have af_qc : h_66.2.1 qc = plf := (funext fun j => (hs.a gqc rfl j).1).trans af_qc
                    have nfa_38 : h_66.2.1 qh = fa_38 := (funext fun j => (hs.a gqh rfl j).1).trans nfa_38
                    have ex_8 := ex_8.trans (hs.a gq_7 rfl _).1.symm
                    have ex_14 := ex_14.trans (hs.a gq_13 rfl _).1.symm
                    have ex_15 := ex_15.trans (hs.a gq_12 rfl _).1.symm
                    have ex_58 := ex_58.trans (hs.a gq_57 rfl _).1.symm
                    have ex_65 := ex_65.trans (hs.a gq_64 rfl _).1.symm
                    have hM := hM.tr (hs.mono (by decide))
                    have gx := gx.S hs
                    have gqn := gqn.S hs
                    have gqp := gqp.S hs
                    have gqh := gqh.S hs
                    have gqc := gqc.S hs
                    have gq_7 := gq_7.S hs
                    have gq_12 := gq_12.S hs
                    have gq_13 := gq_13.S hs
                    have gq_39 := gq_39.S hs
                    have gq_45 := gq_45.S hs
                    have gq_57 := gq_57.S hs
                    have gq_64 := gq_64.S hs
                    refine lv_aload_n hx hb dX10_hear_199 rfl (lv_at hl 1 rfl) ?_
                    refine hk_getr hx hb hts hC_10 hown hW gx tt_10 53 (by decide) rfl kw_1196 ⟨rfl, rfl, rfl⟩ fq_45 dX10_hear_200 ?_
                    refine lv_bipush (v := 8) hx hb dX10_hear_203 (by decide) ?_
                    refine lv_iload_n hx hb dX10_hear_205 rfl (lv_at hl 2 rfl) ?_
                    refine lv_imul hx hb dX10_hear_206 ?_
                    refine lv_topi (fun x_67 ex_67 => ?_)
                    have zx_67 : x_67.toInt = 8 * i1.toInt := by rw [ex_67]; exact i32_mul (by decide) rfl rfl (by omega) (by omega)
                    refine lv_iconst (v := 4) hx hb dX10_hear_207 (by decide) ?_
                    refine lv_iadd hx hb dX10_hear_208 ?_
                    have rg_68 := i32_r x_67
                    refine lv_topi (fun x_69 ex_69 => ?_)
                    have zx_69 : x_69.toInt = x_67.toInt + 4 := by rw [ex_69]; exact i32_add rfl (by decide) (by omega) (by omega)
                    refine lv_aload_n hx hb dX10_hear_209 rfl (lv_at hl 1 rfl) ?_
                    refine lv_aload_n hx hb dX10_hear_210 rfl (lv_at hl 1 rfl) ?_
                    refine hx_getn hx hb hts hC_10 hown hW hT gx tt_10 37 (by decide) rfl kw_1180 ⟨rfl, rfl, rfl⟩ dX10_hear_211 (fun q_70 fq_70 gq_70 => ?_)
                    refine lv_iload_n hx hb dX10_hear_214 rfl (lv_at hl 2 rfl) ?_
                    refine hx_iald hx hb hW hT gq_70 tt_72 rfl ⟨by omega, by omega⟩ dX10_hear_215 (fun x_71 ex_71 lx_71 ux_71 => ?_)
                    refine lv_aload_n hx hb dX10_hear_216 rfl (lv_at hl 1 rfl) ?_
                    refine hk_getr hx hb hts hC_10 hown hW gx tt_10 38 (by decide) rfl kw_1181 ⟨rfl, rfl, rfl⟩ fq_13 dX10_hear_217 ?_
                    refine lv_iload_n hx hb dX10_hear_220 rfl (lv_at hl 2 rfl) ?_
                    refine hx_iald hx hb hW hT gq_13 tt_73 rfl ⟨by omega, by omega⟩ dX10_hear_221 (fun x_72 ex_72 lx_72 ux_72 => ?_)
                    obtain rfl : x_14 = x_72 := ex_14.trans ex_72.symm
                    refine lv_aload_n hx hb dX10_hear_222 rfl (lv_at hl 1 rfl) ?_
                    refine hx_getn hx hb hts hC_10 hown hW hT gx tt_10 43 (by decide) rfl kw_1186 ⟨rfl, rfl, rfl⟩ dX10_hear_223 (fun q_73 fq_73 gq_73 => ?_)
                    refine lv_iload_n hx hb dX10_hear_226 rfl (lv_at hl 2 rfl) ?_
                    refine hx_iald hx hb hW hT gq_73 tt_78 rfl ⟨by omega, by omega⟩ dX10_hear_227 (fun x_74 ex_74 lx_74 ux_74 => ?_)
                    refine hx_goi (hx_runV (As := [.int x_71, .int x_14, .int x_74]) (rest := [.int x_69, .ref q_45]) ⟨hx, hb, hml, hown, hts⟩ hW gx tt_10 (T := TX10) (N := 98) rfl (t_X10_bookSum l dC dI dA L_31 h_66 H.size x x_71 x_14 x_74 hT gx) (cwV 3 hts (hx_gV kw_1573 kw_1570 kw_1572 kw_69 kw_103) rfl rfl rfl (by decide +kernel) ⟨Nat.le_of_ble_eq_true rfl, Nat.le_of_ble_eq_true rfl⟩) rfl hl.1 rfl (Nat.le_of_ble_eq_true rfl) dX10_hear_228 ⟨Nat.le_of_ble_eq_true rfl, Nat.le_of_ble_eq_true rfl⟩) hW (fun r_77 L_75 h_76 H locs p_78 hW => ?_)
                    obtain ⟨hr_79, hT, hs⟩ := p_78
                    have hT : hx_T T_tb L_75 h_76 := hT
                    have hs : hx_S T_tb [] L_31 h_66 L_75 h_76 := hs
                    have f_x_4 := (hs.o gx trivial rfl).2.trans f_x_4
                    have f_x_5 := (hs.o gx trivial rfl).2.trans f_x_5
                    have f_x_47 := (hs.o gx trivial rfl).2.trans f_x_47
                    have f_x_44 := (hs.o gx trivial rfl).2.trans f_x_44
                    have f_x_1 := (hs.o gx trivial rfl).1.trans f_x_1
                    have f_x_36 := (hs.o gx trivial rfl).1.trans f_x_36
                    have fq_7 := (hs.o gx trivial rfl).2.trans fq_7
                    have fq_12 := (hs.o gx trivial rfl).2.trans fq_12
                    have fq_13 := (hs.o gx trivial rfl).2.trans fq_13
                    have fx_36 := (hs.o gx trivial rfl).1.trans fx_36
                    have fq_39 := (hs.o gx trivial rfl).2.trans fq_39
                    have f_44 := (hs.o gx trivial rfl).1.trans f_44
                    have fq_45 := (hs.o gx trivial rfl).2.trans fq_45
                    have fq_57 := (hs.o gx trivial rfl).2.trans fq_57
                    have fq_64 := (hs.o gx trivial rfl).2.trans fq_64
                    have fq_70 := (hs.o gx trivial rfl).2.trans fq_70
                    have fq_73 := (hs.o gx trivial rfl).2.trans fq_73
                    have af_qn : h_76.2.1 qn = psf := (funext fun j => (hs.a gqn rfl j).1).trans af_qn
                    have af_qp : h_76.2.1 qp = prf := (funext fun j => (hs.a gqp rfl j).1).trans af_qp
                    have af_qc : h_76.2.1 qc = plf := (funext fun j => (hs.a gqc rfl j).1).trans af_qc
                    have nfa_38 : h_76.2.1 qh = fa_38 := (funext fun j => (hs.a gqh rfl j).1).trans nfa_38
                    have ex_8 := ex_8.trans (hs.a gq_7 rfl _).1.symm
                    have ex_14 := ex_14.trans (hs.a gq_13 rfl _).1.symm
                    have ex_15 := ex_15.trans (hs.a gq_12 rfl _).1.symm
                    have ex_58 := ex_58.trans (hs.a gq_57 rfl _).1.symm
                    have ex_65 := ex_65.trans (hs.a gq_64 rfl _).1.symm
                    have ex_71 := ex_71.trans (hs.a gq_70 rfl _).1.symm
                    have ex_74 := ex_74.trans (hs.a gq_73 rfl _).1.symm
                    have hM := hM.tr (hs.mono (by decide))
                    have gx := gx.S hs
                    have gqn := gqn.S hs
                    have gqp := gqp.S hs
                    have gqh := gqh.S hs
                    have gqc := gqc.S hs
                    have gq_7 := gq_7.S hs
                    have gq_12 := gq_12.S hs
                    have gq_13 := gq_13.S hs
                    have gq_39 := gq_39.S hs
                    have gq_45 := gq_45.S hs
                    have gq_57 := gq_57.S hs
                    have gq_64 := gq_64.S hs
                    have gq_70 := gq_70.S hs
                    have gq_73 := gq_73.S hs
                    refine hx_iast hx hb hW hT (hx_S.rf (M := [(88, 0)])) gq_45 tt_88 rfl ⟨by omega, by omega⟩ rfl (i32_r _) (List.mem_singleton.mpr rfl) dX10_hear_231 (fun H locs h_80 eh_80 hW hT hs => ?_)
                    have f_x_4 := (hs.o gx trivial rfl).2.trans f_x_4
                    have f_x_5 := (hs.o gx trivial rfl).2.trans f_x_5
                    have f_x_47 := (hs.o gx trivial rfl).2.trans f_x_47
                    have f_x_44 := (hs.o gx trivial rfl).2.trans f_x_44
                    have f_x_1 := (hs.o gx trivial rfl).1.trans f_x_1
                    have f_x_36 := (hs.o gx trivial rfl).1.trans f_x_36
                    have fq_7 := (hs.o gx trivial rfl).2.trans fq_7
                    have fq_12 := (hs.o gx trivial rfl).2.trans fq_12
                    have fq_13 := (hs.o gx trivial rfl).2.trans fq_13
                    have fx_36 := (hs.o gx trivial rfl).1.trans fx_36
                    have fq_39 := (hs.o gx trivial rfl).2.trans fq_39
                    have f_44 := (hs.o gx trivial rfl).1.trans f_44
                    have fq_45 := (hs.o gx trivial rfl).2.trans fq_45
                    have fq_57 := (hs.o gx trivial rfl).2.trans fq_57
                    have fq_64 := (hs.o gx trivial rfl).2.trans fq_64
                    have fq_70 := (hs.o gx trivial rfl).2.trans fq_70
                    have fq_73 := (hs.o gx trivial rfl).2.trans fq_73
                    have af_qn : h_80.2.1 qn = psf := (funext fun j => (hs.a gqn rfl j).1).trans af_qn
                    have af_qp : h_80.2.1 qp = prf := (funext fun j => (hs.a gqp rfl j).1).trans af_qp
                    have af_qc : h_80.2.1 qc = plf := (funext fun j => (hs.a gqc rfl j).1).trans af_qc
                    have nfa_38 : h_80.2.1 qh = fa_38 := (funext fun j => (hs.a gqh rfl j).1).trans nfa_38
                    have ex_8 := ex_8.trans (hs.a gq_7 rfl _).1.symm
                    have ex_14 := ex_14.trans (hs.a gq_13 rfl _).1.symm
                    have ex_15 := ex_15.trans (hs.a gq_12 rfl _).1.symm
                    have ex_58 := ex_58.trans (hs.a gq_57 rfl _).1.symm
                    have ex_65 := ex_65.trans (hs.a gq_64 rfl _).1.symm
                    have ex_71 := ex_71.trans (hs.a gq_70 rfl _).1.symm
                    have ex_74 := ex_74.trans (hs.a gq_73 rfl _).1.symm
                    have hM := hM.tr (hs.mono (by decide))
                    have gx := gx.S hs
                    have gqn := gqn.S hs
                    have gqp := gqp.S hs
                    have gqh := gqh.S hs
                    have gqc := gqc.S hs
                    have gq_7 := gq_7.S hs
                    have gq_12 := gq_12.S hs
                    have gq_13 := gq_13.S hs
                    have gq_39 := gq_39.S hs
                    have gq_45 := gq_45.S hs
                    have gq_57 := gq_57.S hs
                    have gq_64 := gq_64.S hs
                    have gq_70 := gq_70.S hs
                    have gq_73 := gq_73.S hs
                    refine lv_aload_n hx hb dX10_hear_232 rfl (lv_at hl 1 rfl) ?_
                    refine hk_getr hx hb hts hC_10 hown hW gx tt_10 53 (by decide) rfl kw_1196 ⟨rfl, rfl, rfl⟩ fq_45 dX10_hear_233 ?_
                    refine lv_bipush (v := 8) hx hb dX10_hear_236 (by decide) ?_
                    refine lv_iload_n hx hb dX10_hear_238 rfl (lv_at hl 2 rfl) ?_
                    refine lv_imul hx hb dX10_hear_239 ?_
                    refine lv_topi (fun x_81 ex_81 => ?_)
                    have zx_81 : x_81.toInt = 8 * i1.toInt := by rw [ex_81]; exact i32_mul (by decide) rfl rfl (by omega) (by omega)
                    refine lv_iconst (v := 5) hx hb dX10_hear_240 (by decide) ?_
                    refine lv_iadd hx hb dX10_hear_241 ?_
                    have rg_82 := i32_r x_81
                    refine lv_topi (fun x_83 ex_83 => ?_)
                    have zx_83 : x_83.toInt = x_81.toInt + 5 := by rw [ex_83]; exact i32_add rfl (by decide) (by omega) (by omega)
                    refine lv_aload_n hx hb dX10_hear_242 rfl (lv_at hl 1 rfl) ?_
                    refine lv_aload_n hx hb dX10_hear_243 rfl (lv_at hl 1 rfl) ?_
                    refine hk_getr hx hb hts hC_10 hown hW gx tt_10 38 (by decide) rfl kw_1181 ⟨rfl, rfl, rfl⟩ fq_13 dX10_hear_244 ?_
                    refine lv_iload_n hx hb dX10_hear_247 rfl (lv_at hl 2 rfl) ?_
                    refine hx_iald hx hb hW hT gq_13 tt_73 rfl ⟨by omega, by omega⟩ dX10_hear_248 (fun x_84 ex_84 lx_84 ux_84 => ?_)
                    obtain rfl : x_14 = x_84 := ex_14.trans ex_84.symm
                    refine lv_aload_n hx hb dX10_hear_249 rfl (lv_at hl 1 rfl) ?_
                    refine hk_getr hx hb hts hC_10 hown hW gx tt_10 37 (by decide) rfl kw_1180 ⟨rfl, rfl, rfl⟩ fq_70 dX10_hear_250 ?_
                    refine lv_iload_n hx hb dX10_hear_253 rfl (lv_at hl 2 rfl) ?_
                    refine hx_iald hx hb hW hT gq_70 tt_72 rfl ⟨by omega, by omega⟩ dX10_hear_254 (fun x_85 ex_85 lx_85 ux_85 => ?_)
                    obtain rfl : x_71 = x_85 := ex_71.trans ex_85.symm
                    refine lv_aload_n hx hb dX10_hear_255 rfl (lv_at hl 1 rfl) ?_
                    refine hk_getr hx hb hts hC_10 hown hW gx tt_10 43 (by decide) rfl kw_1186 ⟨rfl, rfl, rfl⟩ fq_73 dX10_hear_256 ?_
                    refine lv_iload_n hx hb dX10_hear_259 rfl (lv_at hl 2 rfl) ?_
                    refine hx_iald hx hb hW hT gq_73 tt_78 rfl ⟨by omega, by omega⟩ dX10_hear_260 (fun x_86 ex_86 lx_86 ux_86 => ?_)
                    obtain rfl : x_74 = x_86 := ex_74.trans ex_86.symm
                    refine hx_goi (hx_runV (As := [.int x_14, .int x_71, .int x_74]) (rest := [.int x_83, .ref q_45]) ⟨hx, hb, hml, hown, hts⟩ hW gx tt_10 (T := TX10) (N := 98) rfl (t_X10_bookSum l dC dI dA L_75 h_80 H.size x x_14 x_71 x_74 hT gx) (cwV 3 hts (hx_gV kw_1573 kw_1570 kw_1572 kw_69 kw_103) rfl rfl rfl (by decide +kernel) ⟨Nat.le_of_ble_eq_true rfl, Nat.le_of_ble_eq_true rfl⟩) rfl hl.1 rfl (Nat.le_of_ble_eq_true rfl) dX10_hear_261 ⟨Nat.le_of_ble_eq_true rfl, Nat.le_of_ble_eq_true rfl⟩) hW (fun r_89 L_87 h_88 H locs p_90 hW => ?_)
                    obtain ⟨hr_91, hT, hs⟩ := p_90
                    have hT : hx_T T_tb L_87 h_88 := hT
                    have hs : hx_S T_tb [] L_75 h_80 L_87 h_88 := hs
                    have f_x_4 := (hs.o gx trivial rfl).2.trans f_x_4
                    have f_x_5 := (hs.o gx trivial rfl).2.trans f_x_5
                    have f_x_47 := (hs.o gx trivial rfl).2.trans f_x_47
                    have f_x_44 := (hs.o gx trivial rfl).2.trans f_x_44
                    have f_x_1 := (hs.o gx trivial rfl).1.trans f_x_1
                    have f_x_36 := (hs.o gx trivial rfl).1.trans f_x_36
                    have fq_7 := (hs.o gx trivial rfl).2.trans fq_7
                    have fq_12 := (hs.o gx trivial rfl).2.trans fq_12
                    have fq_13 := (hs.o gx trivial rfl).2.trans fq_13
                    have fx_36 := (hs.o gx trivial rfl).1.trans fx_36
                    have fq_39 := (hs.o gx trivial rfl).2.trans fq_39
                    have f_44 := (hs.o gx trivial rfl).1.trans f_44
                    have fq_45 := (hs.o gx trivial rfl).2.trans fq_45
                    have fq_57 := (hs.o gx trivial rfl).2.trans fq_57
                    have fq_64 := (hs.o gx trivial rfl).2.trans fq_64
                    have fq_70 := (hs.o gx trivial rfl).2.trans fq_70
                    have fq_73 := (hs.o gx trivial rfl).2.trans fq_73
                    have af_qn : h_88.2.1 qn = psf := (funext fun j => (hs.a gqn rfl j).1).trans af_qn
                    have af_qp : h_88.2.1 qp = prf := (funext fun j => (hs.a gqp rfl j).1).trans af_qp
                    have af_qc : h_88.2.1 qc = plf := (funext fun j => (hs.a gqc rfl j).1).trans af_qc
                    have nfa_38 : h_88.2.1 qh = fa_38 := (funext fun j => (hs.a gqh rfl j).1).trans nfa_38
                    have ex_8 := ex_8.trans (hs.a gq_7 rfl _).1.symm
                    have ex_14 := ex_14.trans (hs.a gq_13 rfl _).1.symm
                    have ex_15 := ex_15.trans (hs.a gq_12 rfl _).1.symm
                    have ex_58 := ex_58.trans (hs.a gq_57 rfl _).1.symm
                    have ex_65 := ex_65.trans (hs.a gq_64 rfl _).1.symm
                    have ex_71 := ex_71.trans (hs.a gq_70 rfl _).1.symm
                    have ex_74 := ex_74.trans (hs.a gq_73 rfl _).1.symm
                    have hM := hM.tr (hs.mono (by decide))
                    have gx := gx.S hs
                    have gqn := gqn.S hs
                    have gqp := gqp.S hs
                    have gqh := gqh.S hs
                    have gqc := gqc.S hs
                    have gq_7 := gq_7.S hs
                    have gq_12 := gq_12.S hs
                    have gq_13 := gq_13.S hs
                    have gq_39 := gq_39.S hs
                    have gq_45 := gq_45.S hs
                    have gq_57 := gq_57.S hs
                    have gq_64 := gq_64.S hs
                    have gq_70 := gq_70.S hs
                    have gq_73 := gq_73.S hs
                    refine lv_ineg hx hb dX10_hear_264 ?_
                    refine lv_topi (fun x_92 ex_92 => ?_)
                    refine hx_iast hx hb hW hT (hx_S.rf (M := [(88, 0)])) gq_45 tt_88 rfl ⟨by omega, by omega⟩ rfl (i32_r _) (List.mem_singleton.mpr rfl) dX10_hear_265 (fun H locs h_93 eh_93 hW hT hs => ?_)
                    have f_x_4 := (hs.o gx trivial rfl).2.trans f_x_4
                    have f_x_5 := (hs.o gx trivial rfl).2.trans f_x_5
                    have f_x_47 := (hs.o gx trivial rfl).2.trans f_x_47
                    have f_x_44 := (hs.o gx trivial rfl).2.trans f_x_44
                    have f_x_1 := (hs.o gx trivial rfl).1.trans f_x_1
                    have f_x_36 := (hs.o gx trivial rfl).1.trans f_x_36
                    have fq_7 := (hs.o gx trivial rfl).2.trans fq_7
                    have fq_12 := (hs.o gx trivial rfl).2.trans fq_12
                    have fq_13 := (hs.o gx trivial rfl).2.trans fq_13
                    have fx_36 := (hs.o gx trivial rfl).1.trans fx_36
                    have fq_39 := (hs.o gx trivial rfl).2.trans fq_39
                    have f_44 := (hs.o gx trivial rfl).1.trans f_44
                    have fq_45 := (hs.o gx trivial rfl).2.trans fq_45
                    have fq_57 := (hs.o gx trivial rfl).2.trans fq_57
                    have fq_64 := (hs.o gx trivial rfl).2.trans fq_64
                    have fq_70 := (hs.o gx trivial rfl).2.trans fq_70
                    have fq_73 := (hs.o gx trivial rfl).2.trans fq_73
                    have af_qn : h_93.2.1 qn = psf := (funext fun j => (hs.a gqn rfl j).1).trans af_qn
                    have af_qp : h_93.2.1 qp = prf := (funext fun j => (hs.a gqp rfl j).1).trans af_qp
                    have af_qc : h_93.2.1 qc = plf := (funext fun j => (hs.a gqc rfl j).1).trans af_qc
                    have nfa_38 : h_93.2.1 qh = fa_38 := (funext fun j => (hs.a gqh rfl j).1).trans nfa_38
                    have ex_8 := ex_8.trans (hs.a gq_7 rfl _).1.symm
                    have ex_14 := ex_14.trans (hs.a gq_13 rfl _).1.symm
                    have ex_15 := ex_15.trans (hs.a gq_12 rfl _).1.symm
                    have ex_58 := ex_58.trans (hs.a gq_57 rfl _).1.symm
                    have ex_65 := ex_65.trans (hs.a gq_64 rfl _).1.symm
                    have ex_71 := ex_71.trans (hs.a gq_70 rfl _).1.symm
                    have ex_74 := ex_74.trans (hs.a gq_73 rfl _).1.symm
                    have hM := hM.tr (hs.mono (by decide))
                    have gx := gx.S hs
                    have gqn := gqn.S hs
                    have gqp := gqp.S hs
                    have gqh := gqh.S hs
                    have gqc := gqc.S hs
                    have gq_7 := gq_7.S hs
                    have gq_12 := gq_12.S hs
                    have gq_13 := gq_13.S hs
                    have gq_39 := gq_39.S hs
                    have gq_45 := gq_45.S hs
                    have gq_57 := gq_57.S hs
                    have gq_64 := gq_64.S hs
                    have gq_70 := gq_70.S hs
                    have gq_73 := gq_73.S hs
                    refine lv_aload_n hx hb dX10_hear_266 rfl (lv_at hl 1 rfl) ?_
                    refine hk_getr hx hb hts hC_10 hown hW gx tt_10 53 (by decide) rfl kw_1196 ⟨rfl, rfl, rfl⟩ fq_45 dX10_hear_267 ?_
                    refine lv_bipush (v := 8) hx hb dX10_hear_270 (by decide) ?_
                    refine lv_iload_n hx hb dX10_hear_272 rfl (lv_at hl 2 rfl) ?_
                    refine lv_imul hx hb dX10_hear_273 ?_
                    refine lv_topi (fun x_94 ex_94 => ?_)
                    have zx_94 : x_94.toInt = 8 * i1.toInt := by rw [ex_94]; exact i32_mul (by decide) rfl rfl (by omega) (by omega)
                    refine lv_bipush (v := 6) hx hb dX10_hear_274 (by decide) ?_
                    refine lv_iadd hx hb dX10_hear_276 ?_
                    have rg_95 := i32_r x_94
                    refine lv_topi (fun x_96 ex_96 => ?_)
                    have zx_96 : x_96.toInt = x_94.toInt + 6 := by rw [ex_96]; exact i32_add rfl (by decide) (by omega) (by omega)
                    refine lv_aload_n hx hb dX10_hear_277 rfl (lv_at hl 1 rfl) ?_
                    refine lv_aload_n hx hb dX10_hear_278 rfl (lv_at hl 1 rfl) ?_
                    refine hk_getr hx hb hts hC_10 hown hW gx tt_10 37 (by decide) rfl kw_1180 ⟨rfl, rfl, rfl⟩ fq_70 dX10_hear_279 ?_
                    refine lv_iload_n hx hb dX10_hear_282 rfl (lv_at hl 2 rfl) ?_
                    refine hx_iald hx hb hW hT gq_70 tt_72 rfl ⟨by omega, by omega⟩ dX10_hear_283 (fun x_97 ex_97 lx_97 ux_97 => ?_)
                    obtain rfl : x_71 = x_97 := ex_71.trans ex_97.symm
                    refine lv_aload_n hx hb dX10_hear_284 rfl (lv_at hl 1 rfl) ?_
                    refine hk_getr hx hb hts hC_10 hown hW gx tt_10 38 (by decide) rfl kw_1181 ⟨rfl, rfl, rfl⟩ fq_13 dX10_hear_285 ?_
                    refine lv_iload_n hx hb dX10_hear_288 rfl (lv_at hl 2 rfl) ?_
                    refine hx_iald hx hb hW hT gq_13 tt_73 rfl ⟨by omega, by omega⟩ dX10_hear_289 (fun x_98 ex_98 lx_98 ux_98 => ?_)
                    obtain rfl : x_14 = x_98 := ex_14.trans ex_98.symm
                    refine lv_aload_n hx hb dX10_hear_290 rfl (lv_at hl 1 rfl) ?_
                    refine hk_getr hx hb hts hC_10 hown hW gx tt_10 43 (by decide) rfl kw_1186 ⟨rfl, rfl, rfl⟩ fq_73 dX10_hear_291 ?_
                    refine lv_iload_n hx hb dX10_hear_294 rfl (lv_at hl 2 rfl) ?_
                    refine hx_iald hx hb hW hT gq_73 tt_78 rfl ⟨by omega, by omega⟩ dX10_hear_295 (fun x_99 ex_99 lx_99 ux_99 => ?_)
                    obtain rfl : x_74 = x_99 := ex_74.trans ex_99.symm
                    refine hx_goi (hx_runV (As := [.int x_71, .int x_14, .int x_74]) (rest := [.int x_96, .ref q_45]) ⟨hx, hb, hml, hown, hts⟩ hW gx tt_10 (T := TX10) (N := 98) rfl (t_X10_alike l dC dI dA L_87 h_93 H.size x x_71 x_14 x_74 hT gx (by omega)) (cwV 3 hts (hx_gV kw_1577 kw_1574 kw_1576 kw_70 kw_103) rfl rfl rfl (by decide +kernel) ⟨Nat.le_of_ble_eq_true rfl, Nat.le_of_ble_eq_true rfl⟩) rfl hl.1 rfl (Nat.le_of_ble_eq_true rfl) dX10_hear_296 ⟨Nat.le_of_ble_eq_true rfl, Nat.le_of_ble_eq_true rfl⟩) hW (fun r_102 L_100 h_101 H locs p_103 hW => ?_)
                    obtain ⟨hr_104, hT, hs⟩ := p_103
                    have hT : hx_T T_tb L_100 h_101 := hT
                    have hs : hx_S T_tb [(71, 0)] L_87 h_93 L_100 h_101 := hs
                    have f_x_4 := (hs.o gx trivial rfl).2.trans f_x_4
                    have f_x_5 := (hs.o gx trivial rfl).2.trans f_x_5
                    have f_x_47 := (hs.o gx trivial rfl).2.trans f_x_47
                    have f_x_44 := (hs.o gx trivial rfl).2.trans f_x_44
                    have f_x_1 := (hs.o gx trivial rfl).1.trans f_x_1
                    have f_x_36 := (hs.o gx trivial rfl).1.trans f_x_36
                    have fq_7 := (hs.o gx trivial rfl).2.trans fq_7
                    have fq_12 := (hs.o gx trivial rfl).2.trans fq_12
                    have fq_13 := (hs.o gx trivial rfl).2.trans fq_13
                    have fx_36 := (hs.o gx trivial rfl).1.trans fx_36
                    have fq_39 := (hs.o gx trivial rfl).2.trans fq_39
                    have f_44 := (hs.o gx trivial rfl).1.trans f_44
                    have fq_45 := (hs.o gx trivial rfl).2.trans fq_45
                    have fq_57 := (hs.o gx trivial rfl).2.trans fq_57
                    have fq_64 := (hs.o gx trivial rfl).2.trans fq_64
                    have fq_70 := (hs.o gx trivial rfl).2.trans fq_70
                    have fq_73 := (hs.o gx trivial rfl).2.trans fq_73
                    have af_qn : h_101.2.1 qn = psf := (funext fun j => (hs.a gqn rfl j).1).trans af_qn
                    have af_qp : h_101.2.1 qp = prf := (funext fun j => (hs.a gqp rfl j).1).trans af_qp
                    have af_qc : h_101.2.1 qc = plf := (funext fun j => (hs.a gqc rfl j).1).trans af_qc
                    have nfa_38 : h_101.2.1 qh = fa_38 := (funext fun j => (hs.a gqh rfl j).1).trans nfa_38
                    have ex_8 := ex_8.trans (hs.a gq_7 rfl _).1.symm
                    have ex_14 := ex_14.trans (hs.a gq_13 rfl _).1.symm
                    have ex_15 := ex_15.trans (hs.a gq_12 rfl _).1.symm
                    have ex_58 := ex_58.trans (hs.a gq_57 rfl _).1.symm
                    have ex_65 := ex_65.trans (hs.a gq_64 rfl _).1.symm
                    have ex_71 := ex_71.trans (hs.a gq_70 rfl _).1.symm
                    have ex_74 := ex_74.trans (hs.a gq_73 rfl _).1.symm
                    have hM := hM.tr (hs.mono (by decide))
                    have gx := gx.S hs
                    have gqn := gqn.S hs
                    have gqp := gqp.S hs
                    have gqh := gqh.S hs
                    have gqc := gqc.S hs
                    have gq_7 := gq_7.S hs
                    have gq_12 := gq_12.S hs
                    have gq_13 := gq_13.S hs
                    have gq_39 := gq_39.S hs
                    have gq_45 := gq_45.S hs
                    have gq_57 := gq_57.S hs
                    have gq_64 := gq_64.S hs
                    have gq_70 := gq_70.S hs
                    have gq_73 := gq_73.S hs
                    refine hx_iast hx hb hW hT (hx_S.rf (M := [(88, 0)])) gq_45 tt_88 rfl ⟨by omega, by omega⟩ rfl (i32_r _) (List.mem_singleton.mpr rfl) dX10_hear_299 (fun H locs h_105 eh_105 hW hT hs => ?_)
                    have f_x_4 := (hs.o gx trivial rfl).2.trans f_x_4
                    have f_x_5 := (hs.o gx trivial rfl).2.trans f_x_5
                    have f_x_47 := (hs.o gx trivial rfl).2.trans f_x_47
                    have f_x_44 := (hs.o gx trivial rfl).2.trans f_x_44
                    have f_x_1 := (hs.o gx trivial rfl).1.trans f_x_1
                    have f_x_36 := (hs.o gx trivial rfl).1.trans f_x_36
                    have fq_7 := (hs.o gx trivial rfl).2.trans fq_7
                    have fq_12 := (hs.o gx trivial rfl).2.trans fq_12
                    have fq_13 := (hs.o gx trivial rfl).2.trans fq_13
                    have fx_36 := (hs.o gx trivial rfl).1.trans fx_36
                    have fq_39 := (hs.o gx trivial rfl).2.trans fq_39
                    have f_44 := (hs.o gx trivial rfl).1.trans f_44
                    have fq_45 := (hs.o gx trivial rfl).2.trans fq_45
                    have fq_57 := (hs.o gx trivial rfl).2.trans fq_57
                    have fq_64 := (hs.o gx trivial rfl).2.trans fq_64
                    have fq_70 := (hs.o gx trivial rfl).2.trans fq_70
                    have fq_73 := (hs.o gx trivial rfl).2.trans fq_73
                    have af_qn : h_105.2.1 qn = psf := (funext fun j => (hs.a gqn rfl j).1).trans af_qn
                    have af_qp : h_105.2.1 qp = prf := (funext fun j => (hs.a gqp rfl j).1).trans af_qp
                    have af_qc : h_105.2.1 qc = plf := (funext fun j => (hs.a gqc rfl j).1).trans af_qc
                    have nfa_38 : h_105.2.1 qh = fa_38 := (funext fun j => (hs.a gqh rfl j).1).trans nfa_38
                    have ex_8 := ex_8.trans (hs.a gq_7 rfl _).1.symm
                    have ex_14 := ex_14.trans (hs.a gq_13 rfl _).1.symm
                    have ex_15 := ex_15.trans (hs.a gq_12 rfl _).1.symm
                    have ex_58 := ex_58.trans (hs.a gq_57 rfl _).1.symm
                    have ex_65 := ex_65.trans (hs.a gq_64 rfl _).1.symm
                    have ex_71 := ex_71.trans (hs.a gq_70 rfl _).1.symm
                    have ex_74 := ex_74.trans (hs.a gq_73 rfl _).1.symm
                    have hM := hM.tr (hs.mono (by decide))
                    have gx := gx.S hs
                    have gqn := gqn.S hs
                    have gqp := gqp.S hs
                    have gqh := gqh.S hs
                    have gqc := gqc.S hs
                    have gq_7 := gq_7.S hs
                    have gq_12 := gq_12.S hs
                    have gq_13 := gq_13.S hs
                    have gq_39 := gq_39.S hs
                    have gq_45 := gq_45.S hs
                    have gq_57 := gq_57.S hs
                    have gq_64 := gq_64.S hs
                    have gq_70 := gq_70.S hs
                    have gq_73 := gq_73.S hs
                    refine lv_aload_n hx hb dX10_hear_300 rfl (lv_at hl 1 rfl) ?_
                    refine hk_getr hx hb hts hC_10 hown hW gx tt_10 53 (by decide) rfl kw_1196 ⟨rfl, rfl, rfl⟩ fq_45 dX10_hear_301 ?_
                    refine lv_bipush (v := 8) hx hb dX10_hear_304 (by decide) ?_
                    refine lv_iload_n hx hb dX10_hear_306 rfl (lv_at hl 2 rfl) ?_
                    refine lv_imul hx hb dX10_hear_307 ?_
                    refine lv_topi (fun x_106 ex_106 => ?_)
                    have zx_106 : x_106.toInt = 8 * i1.toInt := by rw [ex_106]; exact i32_mul (by decide) rfl rfl (by omega) (by omega)
                    refine lv_bipush (v := 7) hx hb dX10_hear_308 (by decide) ?_
                    refine lv_iadd hx hb dX10_hear_310 ?_
                    have rg_107 := i32_r x_106
                    refine lv_topi (fun x_108 ex_108 => ?_)
                    have zx_108 : x_108.toInt = x_106.toInt + 7 := by rw [ex_108]; exact i32_add rfl (by decide) (by omega) (by omega)
                    refine lv_aload_n hx hb dX10_hear_311 rfl (lv_at hl 1 rfl) ?_
                    refine hx_getn hx hb hts hC_10 hown hW hT gx tt_10 39 (by decide) rfl kw_1182 ⟨rfl, rfl, rfl⟩ dX10_hear_312 (fun q_109 fq_109 gq_109 => ?_)
                    refine lv_iload_n hx hb dX10_hear_315 rfl (lv_at hl 2 rfl) ?_
                    refine hx_iald hx hb hW hT gq_109 tt_74 rfl ⟨by omega, by omega⟩ dX10_hear_316 (fun x_110 ex_110 lx_110 ux_110 => ?_)
                    refine hx_iast hx hb hW hT (hx_S.rf (M := [(88, 0)])) gq_45 tt_88 rfl ⟨by omega, by omega⟩ rfl (i32_r _) (List.mem_singleton.mpr rfl) dX10_hear_317 (fun H locs h_111 eh_111 hW hT hs => ?_)
                    have f_x_4 := (hs.o gx trivial rfl).2.trans f_x_4
                    have f_x_5 := (hs.o gx trivial rfl).2.trans f_x_5
                    have f_x_47 := (hs.o gx trivial rfl).2.trans f_x_47
                    have f_x_44 := (hs.o gx trivial rfl).2.trans f_x_44
                    have f_x_1 := (hs.o gx trivial rfl).1.trans f_x_1
                    have f_x_36 := (hs.o gx trivial rfl).1.trans f_x_36
                    have fq_7 := (hs.o gx trivial rfl).2.trans fq_7
                    have fq_12 := (hs.o gx trivial rfl).2.trans fq_12
                    have fq_13 := (hs.o gx trivial rfl).2.trans fq_13
                    have fx_36 := (hs.o gx trivial rfl).1.trans fx_36
                    have fq_39 := (hs.o gx trivial rfl).2.trans fq_39
                    have f_44 := (hs.o gx trivial rfl).1.trans f_44
                    have fq_45 := (hs.o gx trivial rfl).2.trans fq_45
                    have fq_57 := (hs.o gx trivial rfl).2.trans fq_57
                    have fq_64 := (hs.o gx trivial rfl).2.trans fq_64
                    have fq_70 := (hs.o gx trivial rfl).2.trans fq_70
                    have fq_73 := (hs.o gx trivial rfl).2.trans fq_73
                    have fq_109 := (hs.o gx trivial rfl).2.trans fq_109
                    have af_qn : h_111.2.1 qn = psf := (funext fun j => (hs.a gqn rfl j).1).trans af_qn
                    have af_qp : h_111.2.1 qp = prf := (funext fun j => (hs.a gqp rfl j).1).trans af_qp
                    have af_qc : h_111.2.1 qc = plf := (funext fun j => (hs.a gqc rfl j).1).trans af_qc
                    have nfa_38 : h_111.2.1 qh = fa_38 := (funext fun j => (hs.a gqh rfl j).1).trans nfa_38
                    have ex_8 := ex_8.trans (hs.a gq_7 rfl _).1.symm
                    have ex_14 := ex_14.trans (hs.a gq_13 rfl _).1.symm
                    have ex_15 := ex_15.trans (hs.a gq_12 rfl _).1.symm
                    have ex_58 := ex_58.trans (hs.a gq_57 rfl _).1.symm
                    have ex_65 := ex_65.trans (hs.a gq_64 rfl _).1.symm
                    have ex_71 := ex_71.trans (hs.a gq_70 rfl _).1.symm
                    have ex_74 := ex_74.trans (hs.a gq_73 rfl _).1.symm
                    have ex_110 := ex_110.trans (hs.a gq_109 rfl _).1.symm
                    have hM := hM.tr (hs.mono (by decide))
                    have gx := gx.S hs
                    have gqn := gqn.S hs
                    have gqp := gqp.S hs
                    have gqh := gqh.S hs
                    have gqc := gqc.S hs
                    have gq_7 := gq_7.S hs
                    have gq_12 := gq_12.S hs
                    have gq_13 := gq_13.S hs
                    have gq_39 := gq_39.S hs
                    have gq_45 := gq_45.S hs
                    have gq_57 := gq_57.S hs
                    have gq_64 := gq_64.S hs
                    have gq_70 := gq_70.S hs
                    have gq_73 := gq_73.S hs
                    have gq_109 := gq_109.S hs
                    refine lv_aload_n hx hb dX10_hear_318 rfl (lv_at hl 1 rfl) ?_
                    refine hx_getn hx hb hts hC_10 hown hW hT gx tt_10 51 (by decide) rfl kw_1194 ⟨rfl, rfl, rfl⟩ dX10_hear_319 (fun q_112 fq_112 gq_112 => ?_)
                    refine lv_iload_n hx hb dX10_hear_322 rfl (lv_at hl 2 rfl) ?_
                    refine lv_aload_n hx hb dX10_hear_323 rfl (lv_at hl 1 rfl) ?_
                    refine lv_iload_n hx hb dX10_hear_324 rfl (lv_at hl 2 rfl) ?_
                    refine lv_aload_n hx hb dX10_hear_325 rfl (lv_at hl 1 rfl) ?_
                    refine hk_getr hx hb hts hC_10 hown hW gx tt_10 44 (by decide) rfl kw_1187 ⟨rfl, rfl, rfl⟩ f_x_44 dX10_hear_326 ?_
                    refine lv_iload_n hx hb dX10_hear_329 rfl (lv_at hl 2 rfl) ?_
                    refine hx_iald hx hb hW hT gqc tt_79 rfl ⟨by omega, by omega⟩ dX10_hear_330 (fun x_113 ex_113 lx_113 ux_113 => ?_)
                    have ax_113 : x_113 = plf i1.toNatClampNeg := ex_113.trans (congrFun af_qc _)
                    have hpl := hPL i1.toInt (by omega) (by omega)
                    have hpl2 : x_113.toInt ≤ a0.toInt := by rw [ax_113]; exact hpl.2
                    refine hx_goi (hx_runV (As := [.int i1, .int x_113]) (rest := [.int i1, .ref q_112]) ⟨hx, hb, hml, hown, hts⟩ hW gx tt_10 (T := TX10) (N := 98) rfl (t_X10_judges l dC dI dA L_100 h_111 H.size x i1 x_113 hT gx qn gqn f_x_4 qp gqp f_x_5 psf af_qn prf af_qp a0 f_x_1 ⟨by omega, by omega⟩ ⟨by omega, by omega⟩ hRP) (cwV 2 hts (hx_gV kw_1617 kw_1614 kw_1616 kw_77 kw_103) rfl rfl rfl (by decide +kernel) ⟨Nat.le_of_ble_eq_true rfl, Nat.le_of_ble_eq_true rfl⟩) rfl hl.1 rfl (Nat.le_of_ble_eq_true rfl) dX10_hear_331 ⟨Nat.le_of_ble_eq_true rfl, Nat.le_of_ble_eq_true rfl⟩) hW (fun r_116 L_114 h_115 H locs p_117 hW => ?_)
                    obtain ⟨hr_118, hT, hs⟩ := p_117
                    have hT : hx_T T_tb L_114 h_115 := hT
                    have hs : hx_S T_tb [(99, 0)] L_100 h_111 L_114 h_115 := hs
                    have f_x_4 := (hs.o gx trivial rfl).2.trans f_x_4
                    have f_x_5 := (hs.o gx trivial rfl).2.trans f_x_5
                    have f_x_47 := (hs.o gx trivial rfl).2.trans f_x_47
                    have f_x_44 := (hs.o gx trivial rfl).2.trans f_x_44
                    have f_x_1 := (hs.o gx trivial rfl).1.trans f_x_1
                    have f_x_36 := (hs.o gx trivial rfl).1.trans f_x_36
                    have fq_7 := (hs.o gx trivial rfl).2.trans fq_7
                    have fq_12 := (hs.o gx trivial rfl).2.trans fq_12
                    have fq_13 := (hs.o gx trivial rfl).2.trans fq_13
                    have fx_36 := (hs.o gx trivial rfl).1.trans fx_36
                    have fq_39 := (hs.o gx trivial rfl).2.trans fq_39
                    have f_44 := (hs.o gx trivial rfl).1.trans f_44
                    have fq_45 := (hs.o gx trivial rfl).2.trans fq_45
                    have fq_57 := (hs.o gx trivial rfl).2.trans fq_57
                    have fq_64 := (hs.o gx trivial rfl).2.trans fq_64
                    have fq_70 := (hs.o gx trivial rfl).2.trans fq_70
                    have fq_73 := (hs.o gx trivial rfl).2.trans fq_73
                    have fq_109 := (hs.o gx trivial rfl).2.trans fq_109
                    have fq_112 := (hs.o gx trivial rfl).2.trans fq_112
                    have af_qn : h_115.2.1 qn = psf := (funext fun j => (hs.a gqn rfl j).1).trans af_qn
                    have af_qp : h_115.2.1 qp = prf := (funext fun j => (hs.a gqp rfl j).1).trans af_qp
                    have af_qc : h_115.2.1 qc = plf := (funext fun j => (hs.a gqc rfl j).1).trans af_qc
                    have nfa_38 : h_115.2.1 qh = fa_38 := (funext fun j => (hs.a gqh rfl j).1).trans nfa_38
                    have ex_8 := ex_8.trans (hs.a gq_7 rfl _).1.symm
                    have ex_14 := ex_14.trans (hs.a gq_13 rfl _).1.symm
                    have ex_15 := ex_15.trans (hs.a gq_12 rfl _).1.symm
                    have ex_58 := ex_58.trans (hs.a gq_57 rfl _).1.symm
                    have ex_65 := ex_65.trans (hs.a gq_64 rfl _).1.symm
                    have ex_71 := ex_71.trans (hs.a gq_70 rfl _).1.symm
                    have ex_74 := ex_74.trans (hs.a gq_73 rfl _).1.symm
                    have ex_110 := ex_110.trans (hs.a gq_109 rfl _).1.symm
                    have ex_113 := ex_113.trans (hs.a gqc rfl _).1.symm
                    have hM := hM.tr (hs.mono (by decide))
                    have gx := gx.S hs
                    have gqn := gqn.S hs
                    have gqp := gqp.S hs
                    have gqh := gqh.S hs
                    have gqc := gqc.S hs
                    have gq_7 := gq_7.S hs
                    have gq_12 := gq_12.S hs
                    have gq_13 := gq_13.S hs
                    have gq_39 := gq_39.S hs
                    have gq_45 := gq_45.S hs
                    have gq_57 := gq_57.S hs
                    have gq_64 := gq_64.S hs
                    have gq_70 := gq_70.S hs
                    have gq_73 := gq_73.S hs
                    have gq_109 := gq_109.S hs
                    have gq_112 := gq_112.S hs
                    refine hx_iast hx hb hW hT (hx_S.rf (M := [(86, 0)])) gq_112 tt_86 rfl ⟨by omega, by omega⟩ rfl (i32_r _) (List.mem_singleton.mpr rfl) dX10_hear_334 (fun H locs h_119 eh_119 hW hT hs => ?_)
                    have f_x_4 := (hs.o gx trivial rfl).2.trans f_x_4
                    have f_x_5 := (hs.o gx trivial rfl).2.trans f_x_5
                    have f_x_47 := (hs.o gx trivial rfl).2.trans f_x_47
                    have f_x_44 := (hs.o gx trivial rfl).2.trans f_x_44
                    have f_x_1 := (hs.o gx trivial rfl).1.trans f_x_1
                    have f_x_36 := (hs.o gx trivial rfl).1.trans f_x_36
                    have fq_7 := (hs.o gx trivial rfl).2.trans fq_7
                    have fq_12 := (hs.o gx trivial rfl).2.trans fq_12
                    have fq_13 := (hs.o gx trivial rfl).2.trans fq_13
                    have fx_36 := (hs.o gx trivial rfl).1.trans fx_36
                    have fq_39 := (hs.o gx trivial rfl).2.trans fq_39
                    have f_44 := (hs.o gx trivial rfl).1.trans f_44
                    have fq_45 := (hs.o gx trivial rfl).2.trans fq_45
                    have fq_57 := (hs.o gx trivial rfl).2.trans fq_57
                    have fq_64 := (hs.o gx trivial rfl).2.trans fq_64
                    have fq_70 := (hs.o gx trivial rfl).2.trans fq_70
                    have fq_73 := (hs.o gx trivial rfl).2.trans fq_73
                    have fq_109 := (hs.o gx trivial rfl).2.trans fq_109
                    have fq_112 := (hs.o gx trivial rfl).2.trans fq_112
                    have af_qn : h_119.2.1 qn = psf := (funext fun j => (hs.a gqn rfl j).1).trans af_qn
                    have af_qp : h_119.2.1 qp = prf := (funext fun j => (hs.a gqp rfl j).1).trans af_qp
                    have af_qc : h_119.2.1 qc = plf := (funext fun j => (hs.a gqc rfl j).1).trans af_qc
                    have nfa_38 : h_119.2.1 qh = fa_38 := (funext fun j => (hs.a gqh rfl j).1).trans nfa_38
                    have ex_8 := ex_8.trans (hs.a gq_7 rfl _).1.symm
                    have ex_14 := ex_14.trans (hs.a gq_13 rfl _).1.symm
                    have ex_15 := ex_15.trans (hs.a gq_12 rfl _).1.symm
                    have ex_58 := ex_58.trans (hs.a gq_57 rfl _).1.symm
                    have ex_65 := ex_65.trans (hs.a gq_64 rfl _).1.symm
                    have ex_71 := ex_71.trans (hs.a gq_70 rfl _).1.symm
                    have ex_74 := ex_74.trans (hs.a gq_73 rfl _).1.symm
                    have ex_110 := ex_110.trans (hs.a gq_109 rfl _).1.symm
                    have ex_113 := ex_113.trans (hs.a gqc rfl _).1.symm
                    have hM := hM.tr (hs.mono (by decide))
                    have gx := gx.S hs
                    have gqn := gqn.S hs
                    have gqp := gqp.S hs
                    have gqh := gqh.S hs
                    have gqc := gqc.S hs
                    have gq_7 := gq_7.S hs
                    have gq_12 := gq_12.S hs
                    have gq_13 := gq_13.S hs
                    have gq_39 := gq_39.S hs
                    have gq_45 := gq_45.S hs
                    have gq_57 := gq_57.S hs
                    have gq_64 := gq_64.S hs
                    have gq_70 := gq_70.S hs
                    have gq_73 := gq_73.S hs
                    have gq_109 := gq_109.S hs
                    have gq_112 := gq_112.S hs
                    refine lv_aload_n hx hb dX10_hear_335 rfl (lv_at hl 1 rfl) ?_
                    refine hk_getr hx hb hts hC_10 hown hW gx tt_10 51 (by decide) rfl kw_1194 ⟨rfl, rfl, rfl⟩ fq_112 dX10_hear_336 ?_
                    refine lv_iload_n hx hb dX10_hear_339 rfl (lv_at hl 2 rfl) ?_
                    refine hx_iald hx hb hW hT gq_112 tt_86 rfl ⟨by omega, by omega⟩ dX10_hear_340 (fun x_120 ex_120 lx_120 ux_120 => ?_)
                    exact hx_reti hx hb hr hlk hW ⟨⟨x_42, fa_38, f_44, nfa_38, (hx_hear hHC (by omega) (by omega) ax_10 (by omega) (by omega) dfa_38 (by omega))⟩, hT, hM⟩ dX10_hear_341
                  refine hb_if_eq (zx := x_58.toInt) (tgt := 180) hx hb rfl dX10_hear_173 (by decide) (fun c_121 => ?_) (fun c_121 => ?_)
                  · skip
                    refine lv_iconst (v := 0) hx hb dX10_hear_180 (by decide) ?_
                    exact jn_181 (0 : Int32) ls (by decide) (by decide) hl
                  · skip
                    refine lv_iconst (v := 1) hx hb dX10_hear_176 (by decide) ?_
                    refine lv_goto (tgt := 181) hx hb dX10_hear_177 (by decide) ?_
                    exact jn_181 (1 : Int32) ls (by decide) (by decide) hl
                refine hb_if_eq (zx := i3.toInt) (tgt := 155) hx hb rfl dX10_hear_148 (by decide) (fun c_122 => ?_) (fun c_122 => ?_)
                · skip
                  refine lv_iconst (v := 0) hx hb dX10_hear_155 (by decide) ?_
                  exact jn_156 (0 : Int32) ls (by decide) (by decide) hl
                · skip
                  refine lv_iconst (v := 1) hx hb dX10_hear_151 (by decide) ?_
                  refine lv_goto (tgt := 156) hx hb dX10_hear_152 (by decide) ?_
                  exact jn_156 (1 : Int32) ls (by decide) (by decide) hl
              refine hb_if_eq (zx := i2.toInt) (tgt := 135) hx hb rfl dX10_hear_128 (by decide) (fun c_123 => ?_) (fun c_123 => ?_)
              · skip
                refine lv_iconst (v := 0) hx hb dX10_hear_135 (by decide) ?_
                exact jn_136 (0 : Int32) ls (by decide) (by decide) hl
              · skip
                refine lv_iconst (v := 1) hx hb dX10_hear_131 (by decide) ?_
                refine lv_goto (tgt := 136) hx hb dX10_hear_132 (by decide) ?_
                exact jn_136 (1 : Int32) ls (by decide) (by decide) hl
            · skip
              refine lv_iconst (v := -1) hx hb dX10_hear_62 (by decide) ?_
              exact hx_reti hx hb hr hlk hW ⟨⟨m0, hf, f_x_57, af_qh, hHC⟩, hT, hM⟩ dX10_hear_63
          · skip
            refine lv_iconst (v := -1) hx hb dX10_hear_47 (by decide) ?_
            exact hx_reti hx hb hr hlk hW ⟨⟨m0, hf, f_x_57, af_qh, hHC⟩, hT, hM⟩ dX10_hear_48

theorem dX10_file_0 : decode cX10_file 0 = .ok (.aload_n 0, 1) := by decide +kernel
theorem dX10_file_1 : decode cX10_file 1 = .ok (.getfield 367, 3) := by decide +kernel
theorem dX10_file_4 : decode cX10_file 4 = .ok (.bipush 100, 2) := by decide +kernel
theorem dX10_file_6 : decode cX10_file 6 = .ok (.if_icmp .eq 68, 3) := by decide +kernel
theorem dX10_file_9 : decode cX10_file 9 = .ok (.aload_n 0, 1) := by decide +kernel
theorem dX10_file_10 : decode cX10_file 10 = .ok (.iload_n 1, 1) := by decide +kernel
theorem dX10_file_11 : decode cX10_file 11 = .ok (.invokevirtual 348, 3) := by decide +kernel
theorem dX10_file_14 : decode cX10_file 14 = .ok (.ifCond .eq 60, 3) := by decide +kernel
theorem dX10_file_17 : decode cX10_file 17 = .ok (.aload_n 0, 1) := by decide +kernel
theorem dX10_file_18 : decode cX10_file 18 = .ok (.iload_n 2, 1) := by decide +kernel
theorem dX10_file_19 : decode cX10_file 19 = .ok (.invokevirtual 348, 3) := by decide +kernel
theorem dX10_file_22 : decode cX10_file 22 = .ok (.ifCond .eq 52, 3) := by decide +kernel
theorem dX10_file_25 : decode cX10_file 25 = .ok (.iload_n 1, 1) := by decide +kernel
theorem dX10_file_26 : decode cX10_file 26 = .ok (.iload_n 2, 1) := by decide +kernel
theorem dX10_file_27 : decode cX10_file 27 = .ok (.if_icmp .eq 47, 3) := by decide +kernel
theorem dX10_file_30 : decode cX10_file 30 = .ok (.aload_n 0, 1) := by decide +kernel
theorem dX10_file_31 : decode cX10_file 31 = .ok (.getfield 56, 3) := by decide +kernel
theorem dX10_file_34 : decode cX10_file 34 = .ok (.iload_n 2, 1) := by decide +kernel
theorem dX10_file_35 : decode cX10_file 35 = .ok (.baload, 1) := by decide +kernel
theorem dX10_file_36 : decode cX10_file 36 = .ok (.ifCond .ne 38, 3) := by decide +kernel
theorem dX10_file_39 : decode cX10_file 39 = .ok (.iload_n 3, 1) := by decide +kernel
theorem dX10_file_40 : decode cX10_file 40 = .ok (.iconst 1, 1) := by decide +kernel
theorem dX10_file_41 : decode cX10_file 41 = .ok (.sipush 9999, 3) := by decide +kernel
theorem dX10_file_44 : decode cX10_file 44 = .ok (.invokestatic 228, 3) := by decide +kernel
theorem dX10_file_47 : decode cX10_file 47 = .ok (.ifCond .eq 27, 3) := by decide +kernel
theorem dX10_file_50 : decode cX10_file 50 = .ok (.iload 4, 2) := by decide +kernel
theorem dX10_file_52 : decode cX10_file 52 = .ok (.iconst 0, 1) := by decide +kernel
theorem dX10_file_53 : decode cX10_file 53 = .ok (.aload_n 0, 1) := by decide +kernel
theorem dX10_file_54 : decode cX10_file 54 = .ok (.getfield 232, 3) := by decide +kernel
theorem dX10_file_57 : decode cX10_file 57 = .ok (.invokestatic 228, 3) := by decide +kernel
theorem dX10_file_60 : decode cX10_file 60 = .ok (.ifCond .eq 14, 3) := by decide +kernel
theorem dX10_file_63 : decode cX10_file 63 = .ok (.iload 6, 2) := by decide +kernel
theorem dX10_file_65 : decode cX10_file 65 = .ok (.iconst 0, 1) := by decide +kernel
theorem dX10_file_66 : decode cX10_file 66 = .ok (.bipush 9, 2) := by decide +kernel
theorem dX10_file_68 : decode cX10_file 68 = .ok (.invokestatic 228, 3) := by decide +kernel
theorem dX10_file_71 : decode cX10_file 71 = .ok (.ifCond .ne 5, 3) := by decide +kernel
theorem dX10_file_74 : decode cX10_file 74 = .ok (.iconst (-1), 1) := by decide +kernel
theorem dX10_file_75 : decode cX10_file 75 = .ok (.ireturn, 1) := by decide +kernel
theorem dX10_file_76 : decode cX10_file 76 = .ok (.aload_n 0, 1) := by decide +kernel
theorem dX10_file_77 : decode cX10_file 77 = .ok (.getfield 367, 3) := by decide +kernel
theorem dX10_file_80 : decode cX10_file 80 = .ok (.istore 7, 2) := by decide +kernel
theorem dX10_file_82 : decode cX10_file 82 = .ok (.aload_n 0, 1) := by decide +kernel
theorem dX10_file_83 : decode cX10_file 83 = .ok (.getfield 81, 3) := by decide +kernel
theorem dX10_file_86 : decode cX10_file 86 = .ok (.iload 7, 2) := by decide +kernel
theorem dX10_file_88 : decode cX10_file 88 = .ok (.iload_n 1, 1) := by decide +kernel
theorem dX10_file_89 : decode cX10_file 89 = .ok (.iastore, 1) := by decide +kernel
theorem dX10_file_90 : decode cX10_file 90 = .ok (.aload_n 0, 1) := by decide +kernel
theorem dX10_file_91 : decode cX10_file 91 = .ok (.getfield 84, 3) := by decide +kernel
theorem dX10_file_94 : decode cX10_file 94 = .ok (.iload 7, 2) := by decide +kernel
theorem dX10_file_96 : decode cX10_file 96 = .ok (.iload_n 2, 1) := by decide +kernel
theorem dX10_file_97 : decode cX10_file 97 = .ok (.iastore, 1) := by decide +kernel
theorem dX10_file_98 : decode cX10_file 98 = .ok (.aload_n 0, 1) := by decide +kernel
theorem dX10_file_99 : decode cX10_file 99 = .ok (.getfield 87, 3) := by decide +kernel
theorem dX10_file_102 : decode cX10_file 102 = .ok (.iload 7, 2) := by decide +kernel
theorem dX10_file_104 : decode cX10_file 104 = .ok (.iload_n 3, 1) := by decide +kernel
theorem dX10_file_105 : decode cX10_file 105 = .ok (.iastore, 1) := by decide +kernel
theorem dX10_file_106 : decode cX10_file 106 = .ok (.aload_n 0, 1) := by decide +kernel
theorem dX10_file_107 : decode cX10_file 107 = .ok (.getfield 90, 3) := by decide +kernel
theorem dX10_file_110 : decode cX10_file 110 = .ok (.iload 7, 2) := by decide +kernel
theorem dX10_file_112 : decode cX10_file 112 = .ok (.iload 4, 2) := by decide +kernel
theorem dX10_file_114 : decode cX10_file 114 = .ok (.iastore, 1) := by decide +kernel
theorem dX10_file_115 : decode cX10_file 115 = .ok (.aload_n 0, 1) := by decide +kernel
theorem dX10_file_116 : decode cX10_file 116 = .ok (.getfield 93, 3) := by decide +kernel
theorem dX10_file_119 : decode cX10_file 119 = .ok (.iload 7, 2) := by decide +kernel
theorem dX10_file_121 : decode cX10_file 121 = .ok (.iload 5, 2) := by decide +kernel
theorem dX10_file_123 : decode cX10_file 123 = .ok (.bastore, 1) := by decide +kernel
theorem dX10_file_124 : decode cX10_file 124 = .ok (.aload_n 0, 1) := by decide +kernel
theorem dX10_file_125 : decode cX10_file 125 = .ok (.getfield 96, 3) := by decide +kernel
theorem dX10_file_128 : decode cX10_file 128 = .ok (.iload 7, 2) := by decide +kernel
theorem dX10_file_130 : decode cX10_file 130 = .ok (.iload 6, 2) := by decide +kernel
theorem dX10_file_132 : decode cX10_file 132 = .ok (.iastore, 1) := by decide +kernel
theorem dX10_file_133 : decode cX10_file 133 = .ok (.aload_n 0, 1) := by decide +kernel
theorem dX10_file_134 : decode cX10_file 134 = .ok (.getfield 99, 3) := by decide +kernel
theorem dX10_file_137 : decode cX10_file 137 = .ok (.iload 7, 2) := by decide +kernel
theorem dX10_file_139 : decode cX10_file 139 = .ok (.aload_n 0, 1) := by decide +kernel
theorem dX10_file_140 : decode cX10_file 140 = .ok (.getfield 232, 3) := by decide +kernel
theorem dX10_file_143 : decode cX10_file 143 = .ok (.iastore, 1) := by decide +kernel
theorem dX10_file_144 : decode cX10_file 144 = .ok (.aload_n 0, 1) := by decide +kernel
theorem dX10_file_145 : decode cX10_file 145 = .ok (.getfield 102, 3) := by decide +kernel
theorem dX10_file_148 : decode cX10_file 148 = .ok (.iload 7, 2) := by decide +kernel
theorem dX10_file_150 : decode cX10_file 150 = .ok (.aload_n 0, 1) := by decide +kernel
theorem dX10_file_151 : decode cX10_file 151 = .ok (.aload_n 0, 1) := by decide +kernel
theorem dX10_file_152 : decode cX10_file 152 = .ok (.getfield 232, 3) := by decide +kernel
theorem dX10_file_155 : decode cX10_file 155 = .ok (.invokevirtual 330, 3) := by decide +kernel
theorem dX10_file_158 : decode cX10_file 158 = .ok (.iastore, 1) := by decide +kernel
theorem dX10_file_159 : decode cX10_file 159 = .ok (.aload_n 0, 1) := by decide +kernel
theorem dX10_file_160 : decode cX10_file 160 = .ok (.getfield 108, 3) := by decide +kernel
theorem dX10_file_163 : decode cX10_file 163 = .ok (.iload 7, 2) := by decide +kernel
theorem dX10_file_165 : decode cX10_file 165 = .ok (.iconst (-1), 1) := by decide +kernel
theorem dX10_file_166 : decode cX10_file 166 = .ok (.iastore, 1) := by decide +kernel
theorem dX10_file_167 : decode cX10_file 167 = .ok (.aload_n 0, 1) := by decide +kernel
theorem dX10_file_168 : decode cX10_file 168 = .ok (.getfield 111, 3) := by decide +kernel
theorem dX10_file_171 : decode cX10_file 171 = .ok (.iload 7, 2) := by decide +kernel
theorem dX10_file_173 : decode cX10_file 173 = .ok (.iconst (-1), 1) := by decide +kernel
theorem dX10_file_174 : decode cX10_file 174 = .ok (.iastore, 1) := by decide +kernel
theorem dX10_file_175 : decode cX10_file 175 = .ok (.aload_n 0, 1) := by decide +kernel
theorem dX10_file_176 : decode cX10_file 176 = .ok (.getfield 114, 3) := by decide +kernel
theorem dX10_file_179 : decode cX10_file 179 = .ok (.iload 7, 2) := by decide +kernel
theorem dX10_file_181 : decode cX10_file 181 = .ok (.iconst (-1), 1) := by decide +kernel
theorem dX10_file_182 : decode cX10_file 182 = .ok (.iastore, 1) := by decide +kernel
theorem dX10_file_183 : decode cX10_file 183 = .ok (.aload_n 0, 1) := by decide +kernel
theorem dX10_file_184 : decode cX10_file 184 = .ok (.getfield 117, 3) := by decide +kernel
theorem dX10_file_187 : decode cX10_file 187 = .ok (.iload 7, 2) := by decide +kernel
theorem dX10_file_189 : decode cX10_file 189 = .ok (.iconst (-1), 1) := by decide +kernel
theorem dX10_file_190 : decode cX10_file 190 = .ok (.iastore, 1) := by decide +kernel
theorem dX10_file_191 : decode cX10_file 191 = .ok (.aload_n 0, 1) := by decide +kernel
theorem dX10_file_192 : decode cX10_file 192 = .ok (.getfield 120, 3) := by decide +kernel
theorem dX10_file_195 : decode cX10_file 195 = .ok (.iload 7, 2) := by decide +kernel
theorem dX10_file_197 : decode cX10_file 197 = .ok (.iconst (-1), 1) := by decide +kernel
theorem dX10_file_198 : decode cX10_file 198 = .ok (.iastore, 1) := by decide +kernel
theorem dX10_file_199 : decode cX10_file 199 = .ok (.iconst 0, 1) := by decide +kernel
theorem dX10_file_200 : decode cX10_file 200 = .ok (.istore 8, 2) := by decide +kernel
theorem dX10_file_202 : decode cX10_file 202 = .ok (.iload 8, 2) := by decide +kernel
theorem dX10_file_204 : decode cX10_file 204 = .ok (.iconst 3, 1) := by decide +kernel
theorem dX10_file_205 : decode cX10_file 205 = .ok (.if_icmp .ge 22, 3) := by decide +kernel
theorem dX10_file_208 : decode cX10_file 208 = .ok (.aload_n 0, 1) := by decide +kernel
theorem dX10_file_209 : decode cX10_file 209 = .ok (.getfield 126, 3) := by decide +kernel
theorem dX10_file_212 : decode cX10_file 212 = .ok (.iconst 3, 1) := by decide +kernel
theorem dX10_file_213 : decode cX10_file 213 = .ok (.iload 7, 2) := by decide +kernel
theorem dX10_file_215 : decode cX10_file 215 = .ok (.imul, 1) := by decide +kernel
theorem dX10_file_216 : decode cX10_file 216 = .ok (.iload 8, 2) := by decide +kernel
theorem dX10_file_218 : decode cX10_file 218 = .ok (.iadd, 1) := by decide +kernel
theorem dX10_file_219 : decode cX10_file 219 = .ok (.iconst (-1), 1) := by decide +kernel
theorem dX10_file_220 : decode cX10_file 220 = .ok (.iastore, 1) := by decide +kernel
theorem dX10_file_221 : decode cX10_file 221 = .ok (.iinc 8 1, 3) := by decide +kernel
theorem dX10_file_224 : decode cX10_file 224 = .ok (.goto (-22), 3) := by decide +kernel
theorem dX10_file_227 : decode cX10_file 227 = .ok (.aload_n 0, 1) := by decide +kernel
theorem dX10_file_228 : decode cX10_file 228 = .ok (.dup, 1) := by decide +kernel
theorem dX10_file_229 : decode cX10_file 229 = .ok (.getfield 367, 3) := by decide +kernel
theorem dX10_file_232 : decode cX10_file 232 = .ok (.iconst 1, 1) := by decide +kernel
theorem dX10_file_233 : decode cX10_file 233 = .ok (.iadd, 1) := by decide +kernel
theorem dX10_file_234 : decode cX10_file 234 = .ok (.putfield 367, 3) := by decide +kernel
theorem dX10_file_237 : decode cX10_file 237 = .ok (.iload 7, 2) := by decide +kernel
theorem dX10_file_239 : decode cX10_file 239 = .ok (.ireturn, 1) := by decide +kernel
set_option maxHeartbeats 4000000 in
set_option maxRecDepth 100000 in
theorem t_X10_file_2 (l : Launch) (dC : Nat → ClassId) (dI : Nat → Nat → Nat) (dA : Nat → ClassId) (L : List Nat) (h : hx_h) (sz : Nat) (x : Nat) (i1 : Int32) (i2 : Int32) (i3 : Int32) (i4 : Int32) (i5 : Int32) (i6 : Int32) (hT : hx_T T_tb L h) (gx : hx_g L h x 10) (qh : Nat) (gqh : hx_g L h qh 82) (f_x_47 : h.2.2 x 47 = some qh) (qc : Nat) (gqc : hx_g L h qc 79) (f_x_44 : h.2.2 x 44 = some qc) (hf : Nat → Int32) (af_qh : h.2.1 qh = hf) (plf : Nat → Int32) (af_qc : h.2.1 qc = plf) (a0 : Int32) (f_x_1 : h.2.1 x 1 = a0) (c0 : Int32) (f_x_36 : h.2.1 x 36 = c0) (m0 : Int32) (f_x_57 : h.2.1 x 57 = m0) (hPL : hx_PL plf c0.toInt a0.toInt) (hHC : m0.toInt = hx_hc hf c0.toInt.toNat) : Met l yX10_file (Cond.code yX10_file cX10_file 9 (some .int) :: hx_all) ({ frames := 2, cells := 0, slots := 0, locals := 43 }) (va_Pc [.ref x, .int i1, .int i2, .int i3, .int i4, .int i5, .int i6] (hx_B T_tb (P_ty dA) (dC, dI) vwCl L h sz)) (va_Qi (fun (r : Int32) (u : List Nat × hx_h) => (∃ (c1 : Int32) (hf1 : Nat → Int32) (plf1 : Nat → Int32), u.2.2.1 x 36 = c1 ∧ u.2.2.1 qh = hf1 ∧ u.2.2.1 qc = plf1 ∧ (m0.toInt = hx_hc hf1 c1.toInt.toNat ∧ hx_PL plf1 c1.toInt a0.toInt)) ∧ hx_T T_tb u.1 u.2 ∧ hx_S T_tb [(10, 36), (72, 0), (73, 0), (74, 0), (75, 0), (76, 0), (77, 0), (78, 0), (79, 0), (81, 0), (82, 0), (83, 0), (84, 0), (85, 0), (87, 0)] L h u.1 u.2) (hx_E T_tb (P_ty dA) (dC, dI) vwCl (hx_A L sz)) (hx_A L sz)) 0 0 (hx_A L sz) := by
  refine hx_met (lv := [(0, .ref x), (1, .int i1), (2, .int i2), (3, .int i3), (4, .int i4), (5, .int i5), (6, .int i6)]) (by decide +kernel) rfl (Nat.le_of_ble_eq_true rfl) rfl ?_
  intro p e s m below meth c hx hb hml hr hlk hts0 hown hin hsz hW ls hl
  have hts : ∀ w ∈ hx_all, w.before _ s = true := fun w hw => hts0 w (List.mem_cons_of_mem _ hw)
  have hown : s.vm.findClass "SmallCourtModel" = some m.cls := hown
  have hM : hx_S T_tb [(10, 36), (72, 0), (73, 0), (74, 0), (75, 0), (76, 0), (77, 0), (78, 0), (79, 0), (81, 0), (82, 0), (83, 0), (84, 0), (85, 0), (87, 0)] L h L h := hx_S.rf
  have b_a0 := hT.gi gx tt_10 (k := 1) rfl
  rw [f_x_1] at b_a0
  have b_a0 : 0 ≤ a0.toInt ∧ a0.toInt ≤ 8 := b_a0
  have b_c0 := hT.gi gx tt_10 (k := 36) rfl
  rw [f_x_36] at b_c0
  have b_c0 : 0 ≤ c0.toInt ∧ c0.toInt ≤ 100 := b_c0
  have b_m0 := hT.gi gx tt_10 (k := 57) rfl
  rw [f_x_57] at b_m0
  have b_m0 : 0 ≤ m0.toInt ∧ m0.toInt ≤ 100 := b_m0
  refine lv_aload_n hx hb dX10_file_0 rfl (lv_at hl 0 rfl) ?_
  refine hk_geti hx hb hts hC_10 hown hW gx tt_10 36 (by decide) rfl kw_1179 ⟨rfl, rfl, rfl⟩ f_x_36 dX10_file_1 ?_
  refine lv_bipush (v := 100) hx hb dX10_file_4 (by decide) ?_
  refine hb_icmp_eq (zx := c0.toInt) (zy := 100) (tgt := 74) hx hb rfl (by decide) dX10_file_6 (by decide) (fun c_1 => ?_) (fun c_1 => ?_)
  · skip
    refine lv_iconst (v := -1) hx hb dX10_file_74 (by decide) ?_
    exact hx_reti hx hb hr hlk hW ⟨⟨c0, hf, plf, f_x_36, af_qh, af_qc, ⟨hHC, hPL⟩⟩, hT, hM⟩ dX10_file_75
  · skip
    refine lv_aload_n hx hb dX10_file_9 rfl (lv_at hl 0 rfl) ?_
    refine lv_iload_n hx hb dX10_file_10 rfl (lv_at hl 1 rfl) ?_
    obtain ⟨fv_2, efv_2⟩ : ∃ y : Int32, y = h.2.1 x 20 := ⟨_, rfl⟩
    have bfv_2 := hT.gi gx tt_10 (k := 20) rfl
    rw [← efv_2] at bfv_2
    have bfv_2 : 0 ≤ fv_2.toInt ∧ fv_2.toInt ≤ 40 := bfv_2
    have ffv_2 := efv_2.symm
    refine hx_goi (hx_runV (As := [.int i1]) (rest := []) ⟨hx, hb, hml, hown, hts⟩ hW gx tt_10 (T := TX10) (N := 98) rfl (t_X10_isPerson l dC dI dA L h s.heap.size x i1 hT gx fv_2 ffv_2) (cwV 1 hts (hx_gV kw_1552 kw_1549 kw_1551 kw_68 kw_103) rfl rfl rfl (by decide +kernel) ⟨Nat.le_of_ble_eq_true rfl, Nat.le_of_ble_eq_true rfl⟩) rfl hl.1 rfl (Nat.le_of_ble_eq_true rfl) dX10_file_11 ⟨Nat.le_of_ble_eq_true rfl, Nat.le_of_ble_eq_true rfl⟩) hW (fun r_5 L_3 h_4 H locs p_6 hW => ?_)
    obtain ⟨hr_7, hT, hs⟩ := p_6
    have hT : hx_T T_tb L_3 h_4 := hT
    have hs : hx_S T_tb [] L h L_3 h_4 := hs
    have f_x_47 := (hs.o gx trivial rfl).2.trans f_x_47
    have f_x_44 := (hs.o gx trivial rfl).2.trans f_x_44
    have f_x_1 := (hs.o gx trivial rfl).1.trans f_x_1
    have f_x_36 := (hs.o gx trivial rfl).1.trans f_x_36
    have f_x_57 := (hs.o gx trivial rfl).1.trans f_x_57
    have ffv_2 := (hs.o gx trivial rfl).1.trans ffv_2
    have af_qh : h_4.2.1 qh = hf := (funext fun j => (hs.a gqh rfl j).1).trans af_qh
    have af_qc : h_4.2.1 qc = plf := (funext fun j => (hs.a gqc rfl j).1).trans af_qc
    have hM := hM.tr (hs.mono (by decide))
    have gx := gx.S hs
    have gqh := gqh.S hs
    have gqc := gqc.S hs
    refine hb_if_eq (zx := r_5.toInt) (tgt := 74) hx hb rfl dX10_file_14 (by decide) (fun c_8 => ?_) (fun c_8 => ?_)
    · skip
      refine lv_iconst (v := -1) hx hb dX10_file_74 (by decide) ?_
      exact hx_reti hx hb hr hlk hW ⟨⟨c0, hf, plf, f_x_36, af_qh, af_qc, ⟨hHC, hPL⟩⟩, hT, hM⟩ dX10_file_75
    · skip
      refine lv_aload_n hx hb dX10_file_17 rfl (lv_at hl 0 rfl) ?_
      refine lv_iload_n hx hb dX10_file_18 rfl (lv_at hl 2 rfl) ?_
      refine hx_goi (hx_runV (As := [.int i2]) (rest := []) ⟨hx, hb, hml, hown, hts⟩ hW gx tt_10 (T := TX10) (N := 98) rfl (t_X10_isPerson l dC dI dA L_3 h_4 H.size x i2 hT gx fv_2 ffv_2) (cwV 1 hts (hx_gV kw_1552 kw_1549 kw_1551 kw_68 kw_103) rfl rfl rfl (by decide +kernel) ⟨Nat.le_of_ble_eq_true rfl, Nat.le_of_ble_eq_true rfl⟩) rfl hl.1 rfl (Nat.le_of_ble_eq_true rfl) dX10_file_19 ⟨Nat.le_of_ble_eq_true rfl, Nat.le_of_ble_eq_true rfl⟩) hW (fun r_11 L_9 h_10 H locs p_12 hW => ?_)
      obtain ⟨hr_13, hT, hs⟩ := p_12
      have hT : hx_T T_tb L_9 h_10 := hT
      have hs : hx_S T_tb [] L_3 h_4 L_9 h_10 := hs
      have f_x_47 := (hs.o gx trivial rfl).2.trans f_x_47
      have f_x_44 := (hs.o gx trivial rfl).2.trans f_x_44
      have f_x_1 := (hs.o gx trivial rfl).1.trans f_x_1
      have f_x_36 := (hs.o gx trivial rfl).1.trans f_x_36
      have f_x_57 := (hs.o gx trivial rfl).1.trans f_x_57
      have ffv_2 := (hs.o gx trivial rfl).1.trans ffv_2
      have af_qh : h_10.2.1 qh = hf := (funext fun j => (hs.a gqh rfl j).1).trans af_qh
      have af_qc : h_10.2.1 qc = plf := (funext fun j => (hs.a gqc rfl j).1).trans af_qc
      have hM := hM.tr (hs.mono (by decide))
      have gx := gx.S hs
      have gqh := gqh.S hs
      have gqc := gqc.S hs
      refine hb_if_eq (zx := r_11.toInt) (tgt := 74) hx hb rfl dX10_file_22 (by decide) (fun c_14 => ?_) (fun c_14 => ?_)
      · skip
        refine lv_iconst (v := -1) hx hb dX10_file_74 (by decide) ?_
        exact hx_reti hx hb hr hlk hW ⟨⟨c0, hf, plf, f_x_36, af_qh, af_qc, ⟨hHC, hPL⟩⟩, hT, hM⟩ dX10_file_75
      · skip
        refine lv_iload_n hx hb dX10_file_25 rfl (lv_at hl 1 rfl) ?_
        refine lv_iload_n hx hb dX10_file_26 rfl (lv_at hl 2 rfl) ?_
        refine hb_icmp_eq (zx := i1.toInt) (zy := i2.toInt) (tgt := 74) hx hb rfl rfl dX10_file_27 (by decide) (fun c_15 => ?_) (fun c_15 => ?_)
        · skip
          refine lv_iconst (v := -1) hx hb dX10_file_74 (by decide) ?_
          exact hx_reti hx hb hr hlk hW ⟨⟨c0, hf, plf, f_x_36, af_qh, af_qc, ⟨hHC, hPL⟩⟩, hT, hM⟩ dX10_file_75
        · skip
          refine lv_aload_n hx hb dX10_file_30 rfl (lv_at hl 0 rfl) ?_
          refine hx_getn hx hb hts hC_10 hown hW hT gx tt_10 27 (by decide) rfl kw_1170 ⟨rfl, rfl, rfl⟩ dX10_file_31 (fun q_16 fq_16 gq_16 => ?_)
          refine lv_iload_n hx hb dX10_file_34 rfl (lv_at hl 2 rfl) ?_
          refine hx_zald hx hb hW hT gq_16 tt_64 rfl ⟨by omega, by omega⟩ dX10_file_35 (fun x_17 ex_17 lx_17 ux_17 => ?_)
          refine hb_if_ne (zx := x_17.toInt) (tgt := 74) hx hb rfl dX10_file_36 (by decide) (fun c_18 => ?_) (fun c_18 => ?_)
          · skip
            refine lv_iconst (v := -1) hx hb dX10_file_74 (by decide) ?_
            exact hx_reti hx hb hr hlk hW ⟨⟨c0, hf, plf, f_x_36, af_qh, af_qc, ⟨hHC, hPL⟩⟩, hT, hM⟩ dX10_file_75
          · skip
            refine lv_iload_n hx hb dX10_file_39 rfl (lv_at hl 3 rfl) ?_
            refine lv_iconst (v := 1) hx hb dX10_file_40 (by decide) ?_
            refine lv_sipush (v := 9999) hx hb dX10_file_41 (by decide) ?_
            have zc_9999 : (9999 : Int32).toInt = 9999 := by decide
            have zc_1 : (1 : Int32).toInt = 1 := by decide
            refine hx_goi (hx_runS (As := [.int i3, .int (1 : Int32), .int (9999 : Int32)]) (rest := []) ⟨hx, hb, hml, hown, hts⟩ hW (t_X10_in l dC dI dA L_9 h_10 H.size i3 (1 : Int32) (9999 : Int32) hT) (va_cwS 3 hts (hx_gS kw_1445 kw_1443 kw_1444 kw_103) rfl rfl rfl (by decide +kernel) ⟨Nat.le_of_ble_eq_true rfl, Nat.le_of_ble_eq_true rfl⟩) rfl hl.1 rfl (Nat.le_of_ble_eq_true rfl) dX10_file_44 ⟨Nat.le_of_ble_eq_true rfl, Nat.le_of_ble_eq_true rfl⟩) hW (fun r_21 L_19 h_20 H locs p_22 hW => ?_)
            obtain ⟨hr_23, hT, hs⟩ := p_22
            have hT : hx_T T_tb L_19 h_20 := hT
            have hs : hx_S T_tb [] L_9 h_10 L_19 h_20 := hs
            have f_x_47 := (hs.o gx trivial rfl).2.trans f_x_47
            have f_x_44 := (hs.o gx trivial rfl).2.trans f_x_44
            have f_x_1 := (hs.o gx trivial rfl).1.trans f_x_1
            have f_x_36 := (hs.o gx trivial rfl).1.trans f_x_36
            have f_x_57 := (hs.o gx trivial rfl).1.trans f_x_57
            have ffv_2 := (hs.o gx trivial rfl).1.trans ffv_2
            have fq_16 := (hs.o gx trivial rfl).2.trans fq_16
            have af_qh : h_20.2.1 qh = hf := (funext fun j => (hs.a gqh rfl j).1).trans af_qh
            have af_qc : h_20.2.1 qc = plf := (funext fun j => (hs.a gqc rfl j).1).trans af_qc
            have ex_17 := ex_17.trans (hs.a gq_16 rfl _).1.symm
            have hM := hM.tr (hs.mono (by decide))
            have gx := gx.S hs
            have gqh := gqh.S hs
            have gqc := gqc.S hs
            have gq_16 := gq_16.S hs
            refine hb_if_eq (zx := r_21.toInt) (tgt := 74) hx hb rfl dX10_file_47 (by decide) (fun c_24 => ?_) (fun c_24 => ?_)
            · skip
              refine lv_iconst (v := -1) hx hb dX10_file_74 (by decide) ?_
              exact hx_reti hx hb hr hlk hW ⟨⟨c0, hf, plf, f_x_36, af_qh, af_qc, ⟨hHC, hPL⟩⟩, hT, hM⟩ dX10_file_75
            · skip
              refine lv_iload hx hb dX10_file_50 (lv_at hl 4 rfl) ?_
              refine lv_iconst (v := 0) hx hb dX10_file_52 (by decide) ?_
              refine lv_aload_n hx hb dX10_file_53 rfl (lv_at hl 0 rfl) ?_
              refine hx_geti hx hb hts hC_10 hown hW hT gx tt_10 0 (by decide) rfl kw_1143 ⟨rfl, rfl, rfl⟩ dX10_file_54 (fun x_25 ex_25 lx_25 ux_25 => ?_)
              have fx_25 := ex_25.symm
              have zc_0 : (0 : Int32).toInt = 0 := by decide
              refine hx_goi (hx_runS (As := [.int i4, .int (0 : Int32), .int x_25]) (rest := []) ⟨hx, hb, hml, hown, hts⟩ hW (t_X10_in l dC dI dA L_19 h_20 H.size i4 (0 : Int32) x_25 hT) (va_cwS 3 hts (hx_gS kw_1445 kw_1443 kw_1444 kw_103) rfl rfl rfl (by decide +kernel) ⟨Nat.le_of_ble_eq_true rfl, Nat.le_of_ble_eq_true rfl⟩) rfl hl.1 rfl (Nat.le_of_ble_eq_true rfl) dX10_file_57 ⟨Nat.le_of_ble_eq_true rfl, Nat.le_of_ble_eq_true rfl⟩) hW (fun r_28 L_26 h_27 H locs p_29 hW => ?_)
              obtain ⟨hr_30, hT, hs⟩ := p_29
              have hT : hx_T T_tb L_26 h_27 := hT
              have hs : hx_S T_tb [] L_19 h_20 L_26 h_27 := hs
              have f_x_47 := (hs.o gx trivial rfl).2.trans f_x_47
              have f_x_44 := (hs.o gx trivial rfl).2.trans f_x_44
              have f_x_1 := (hs.o gx trivial rfl).1.trans f_x_1
              have f_x_36 := (hs.o gx trivial rfl).1.trans f_x_36
              have f_x_57 := (hs.o gx trivial rfl).1.trans f_x_57
              have ffv_2 := (hs.o gx trivial rfl).1.trans ffv_2
              have fq_16 := (hs.o gx trivial rfl).2.trans fq_16
              have fx_25 := (hs.o gx trivial rfl).1.trans fx_25
              have af_qh : h_27.2.1 qh = hf := (funext fun j => (hs.a gqh rfl j).1).trans af_qh
              have af_qc : h_27.2.1 qc = plf := (funext fun j => (hs.a gqc rfl j).1).trans af_qc
              have ex_17 := ex_17.trans (hs.a gq_16 rfl _).1.symm
              have hM := hM.tr (hs.mono (by decide))
              have gx := gx.S hs
              have gqh := gqh.S hs
              have gqc := gqc.S hs
              have gq_16 := gq_16.S hs
              refine hb_if_eq (zx := r_28.toInt) (tgt := 74) hx hb rfl dX10_file_60 (by decide) (fun c_31 => ?_) (fun c_31 => ?_)
              · skip
                refine lv_iconst (v := -1) hx hb dX10_file_74 (by decide) ?_
                exact hx_reti hx hb hr hlk hW ⟨⟨c0, hf, plf, f_x_36, af_qh, af_qc, ⟨hHC, hPL⟩⟩, hT, hM⟩ dX10_file_75
              · skip
                refine lv_iload hx hb dX10_file_63 (lv_at hl 6 rfl) ?_
                refine lv_iconst (v := 0) hx hb dX10_file_65 (by decide) ?_
                refine lv_bipush (v := 9) hx hb dX10_file_66 (by decide) ?_
                have zc_9 : (9 : Int32).toInt = 9 := by decide
                refine hx_goi (hx_runS (As := [.int i6, .int (0 : Int32), .int (9 : Int32)]) (rest := []) ⟨hx, hb, hml, hown, hts⟩ hW (t_X10_in l dC dI dA L_26 h_27 H.size i6 (0 : Int32) (9 : Int32) hT) (va_cwS 3 hts (hx_gS kw_1445 kw_1443 kw_1444 kw_103) rfl rfl rfl (by decide +kernel) ⟨Nat.le_of_ble_eq_true rfl, Nat.le_of_ble_eq_true rfl⟩) rfl hl.1 rfl (Nat.le_of_ble_eq_true rfl) dX10_file_68 ⟨Nat.le_of_ble_eq_true rfl, Nat.le_of_ble_eq_true rfl⟩) hW (fun r_34 L_32 h_33 H locs p_35 hW => ?_)
                obtain ⟨hr_36, hT, hs⟩ := p_35
                have hT : hx_T T_tb L_32 h_33 := hT
                have hs : hx_S T_tb [] L_26 h_27 L_32 h_33 := hs
                have f_x_47 := (hs.o gx trivial rfl).2.trans f_x_47
                have f_x_44 := (hs.o gx trivial rfl).2.trans f_x_44
                have f_x_1 := (hs.o gx trivial rfl).1.trans f_x_1
                have f_x_36 := (hs.o gx trivial rfl).1.trans f_x_36
                have f_x_57 := (hs.o gx trivial rfl).1.trans f_x_57
                have ffv_2 := (hs.o gx trivial rfl).1.trans ffv_2
                have fq_16 := (hs.o gx trivial rfl).2.trans fq_16
                have fx_25 := (hs.o gx trivial rfl).1.trans fx_25
                have af_qh : h_33.2.1 qh = hf := (funext fun j => (hs.a gqh rfl j).1).trans af_qh
                have af_qc : h_33.2.1 qc = plf := (funext fun j => (hs.a gqc rfl j).1).trans af_qc
                have ex_17 := ex_17.trans (hs.a gq_16 rfl _).1.symm
                have hM := hM.tr (hs.mono (by decide))
                have gx := gx.S hs
                have gqh := gqh.S hs
                have gqc := gqc.S hs
                have gq_16 := gq_16.S hs
                refine hb_if_ne (zx := r_34.toInt) (tgt := 76) hx hb rfl dX10_file_71 (by decide) (fun c_37 => ?_) (fun c_37 => ?_)
                · skip
                  refine lv_aload_n hx hb dX10_file_76 rfl (lv_at hl 0 rfl) ?_
                  refine hk_geti hx hb hts hC_10 hown hW gx tt_10 36 (by decide) rfl kw_1179 ⟨rfl, rfl, rfl⟩ f_x_36 dX10_file_77 ?_
                  refine lv_istore (lv' := [(7, .int c0), (0, .ref x), (1, .int i1), (2, .int i2), (3, .int i3), (4, .int i4), (5, .int i5), (6, .int i6)]) hx hb dX10_file_80 hl (by decide) rfl (fun ls hl => ?_)
                  refine lv_aload_n hx hb dX10_file_82 rfl (lv_at hl 1 rfl) ?_
                  refine hx_getn hx hb hts hC_10 hown hW hT gx tt_10 37 (by decide) rfl kw_1180 ⟨rfl, rfl, rfl⟩ dX10_file_83 (fun q_38 fq_38 gq_38 => ?_)
                  refine lv_iload hx hb dX10_file_86 (lv_at hl 0 rfl) ?_
                  refine lv_iload_n hx hb dX10_file_88 rfl (lv_at hl 2 rfl) ?_
                  refine hx_iast hx hb hW hT (hx_S.rf (M := [(72, 0)])) gq_38 tt_72 rfl ⟨by omega, by omega⟩ rfl ⟨by omega, by omega⟩ (List.mem_singleton.mpr rfl) dX10_file_89 (fun H locs h_39 eh_39 hW hT hs => ?_)
                  have f_x_47 := (hs.o gx trivial rfl).2.trans f_x_47
                  have f_x_44 := (hs.o gx trivial rfl).2.trans f_x_44
                  have f_x_1 := (hs.o gx trivial rfl).1.trans f_x_1
                  have f_x_36 := (hs.o gx trivial rfl).1.trans f_x_36
                  have f_x_57 := (hs.o gx trivial rfl).1.trans f_x_57
                  have ffv_2 := (hs.o gx trivial rfl).1.trans ffv_2
                  have fq_16 := (hs.o gx trivial rfl).2.trans fq_16
                  have fx_25 := (hs.o gx trivial rfl).1.trans fx_25
                  have fq_38 := (hs.o gx trivial rfl).2.trans fq_38
                  have af_qh : h_39.2.1 qh = hf := (funext fun j => (hs.a gqh rfl j).1).trans af_qh
                  have af_qc : h_39.2.1 qc = plf := (funext fun j => (hs.a gqc rfl j).1).trans af_qc
                  have ex_17 := ex_17.trans (hs.a gq_16 rfl _).1.symm
                  have hM := hM.tr (hs.mono (by decide))
                  have gx := gx.S hs
                  have gqh := gqh.S hs
                  have gqc := gqc.S hs
                  have gq_16 := gq_16.S hs
                  have gq_38 := gq_38.S hs
                  refine lv_aload_n hx hb dX10_file_90 rfl (lv_at hl 1 rfl) ?_
                  refine hx_getn hx hb hts hC_10 hown hW hT gx tt_10 38 (by decide) rfl kw_1181 ⟨rfl, rfl, rfl⟩ dX10_file_91 (fun q_40 fq_40 gq_40 => ?_)
                  refine lv_iload hx hb dX10_file_94 (lv_at hl 0 rfl) ?_
                  refine lv_iload_n hx hb dX10_file_96 rfl (lv_at hl 3 rfl) ?_
                  refine hx_iast hx hb hW hT (hx_S.rf (M := [(73, 0)])) gq_40 tt_73 rfl ⟨by omega, by omega⟩ rfl ⟨by omega, by omega⟩ (List.mem_singleton.mpr rfl) dX10_file_97 (fun H locs h_41 eh_41 hW hT hs => ?_)
                  have f_x_47 := (hs.o gx trivial rfl).2.trans f_x_47
                  have f_x_44 := (hs.o gx trivial rfl).2.trans f_x_44
                  have f_x_1 := (hs.o gx trivial rfl).1.trans f_x_1
                  have f_x_36 := (hs.o gx trivial rfl).1.trans f_x_36
                  have f_x_57 := (hs.o gx trivial rfl).1.trans f_x_57
                  have ffv_2 := (hs.o gx trivial rfl).1.trans ffv_2
                  have fq_16 := (hs.o gx trivial rfl).2.trans fq_16
                  have fx_25 := (hs.o gx trivial rfl).1.trans fx_25
                  have fq_38 := (hs.o gx trivial rfl).2.trans fq_38
                  have fq_40 := (hs.o gx trivial rfl).2.trans fq_40
                  have af_qh : h_41.2.1 qh = hf := (funext fun j => (hs.a gqh rfl j).1).trans af_qh
                  have af_qc : h_41.2.1 qc = plf := (funext fun j => (hs.a gqc rfl j).1).trans af_qc
                  have ex_17 := ex_17.trans (hs.a gq_16 rfl _).1.symm
                  have hM := hM.tr (hs.mono (by decide))
                  have gx := gx.S hs
                  have gqh := gqh.S hs
                  have gqc := gqc.S hs
                  have gq_16 := gq_16.S hs
                  have gq_38 := gq_38.S hs
                  have gq_40 := gq_40.S hs
                  refine lv_aload_n hx hb dX10_file_98 rfl (lv_at hl 1 rfl) ?_
                  refine hx_getn hx hb hts hC_10 hown hW hT gx tt_10 39 (by decide) rfl kw_1182 ⟨rfl, rfl, rfl⟩ dX10_file_99 (fun q_42 fq_42 gq_42 => ?_)
                  refine lv_iload hx hb dX10_file_102 (lv_at hl 0 rfl) ?_
                  refine lv_iload_n hx hb dX10_file_104 rfl (lv_at hl 4 rfl) ?_
                  refine hx_iast hx hb hW hT (hx_S.rf (M := [(74, 0)])) gq_42 tt_74 rfl ⟨by omega, by omega⟩ rfl ⟨by omega, by omega⟩ (List.mem_singleton.mpr rfl) dX10_file_105 (fun H locs h_43 eh_43 hW hT hs => ?_)
                  have f_x_47 := (hs.o gx trivial rfl).2.trans f_x_47
                  have f_x_44 := (hs.o gx trivial rfl).2.trans f_x_44
                  have f_x_1 := (hs.o gx trivial rfl).1.trans f_x_1
                  have f_x_36 := (hs.o gx trivial rfl).1.trans f_x_36
                  have f_x_57 := (hs.o gx trivial rfl).1.trans f_x_57
                  have ffv_2 := (hs.o gx trivial rfl).1.trans ffv_2
                  have fq_16 := (hs.o gx trivial rfl).2.trans fq_16
                  have fx_25 := (hs.o gx trivial rfl).1.trans fx_25
                  have fq_38 := (hs.o gx trivial rfl).2.trans fq_38
                  have fq_40 := (hs.o gx trivial rfl).2.trans fq_40
                  have fq_42 := (hs.o gx trivial rfl).2.trans fq_42
                  have af_qh : h_43.2.1 qh = hf := (funext fun j => (hs.a gqh rfl j).1).trans af_qh
                  have af_qc : h_43.2.1 qc = plf := (funext fun j => (hs.a gqc rfl j).1).trans af_qc
                  have ex_17 := ex_17.trans (hs.a gq_16 rfl _).1.symm
                  have hM := hM.tr (hs.mono (by decide))
                  have gx := gx.S hs
                  have gqh := gqh.S hs
                  have gqc := gqc.S hs
                  have gq_16 := gq_16.S hs
                  have gq_38 := gq_38.S hs
                  have gq_40 := gq_40.S hs
                  have gq_42 := gq_42.S hs
                  refine lv_aload_n hx hb dX10_file_106 rfl (lv_at hl 1 rfl) ?_
                  refine hx_getn hx hb hts hC_10 hown hW hT gx tt_10 40 (by decide) rfl kw_1183 ⟨rfl, rfl, rfl⟩ dX10_file_107 (fun q_44 fq_44 gq_44 => ?_)
                  refine lv_iload hx hb dX10_file_110 (lv_at hl 0 rfl) ?_
                  refine lv_iload hx hb dX10_file_112 (lv_at hl 5 rfl) ?_
                  refine hx_iast hx hb hW hT (hx_S.rf (M := [(75, 0)])) gq_44 tt_75 rfl ⟨by omega, by omega⟩ rfl (i32_r _) (List.mem_singleton.mpr rfl) dX10_file_114 (fun H locs h_45 eh_45 hW hT hs => ?_)
                  have f_x_47 := (hs.o gx trivial rfl).2.trans f_x_47
                  have f_x_44 := (hs.o gx trivial rfl).2.trans f_x_44
                  have f_x_1 := (hs.o gx trivial rfl).1.trans f_x_1
                  have f_x_36 := (hs.o gx trivial rfl).1.trans f_x_36
                  have f_x_57 := (hs.o gx trivial rfl).1.trans f_x_57
                  have ffv_2 := (hs.o gx trivial rfl).1.trans ffv_2
                  have fq_16 := (hs.o gx trivial rfl).2.trans fq_16
                  have fx_25 := (hs.o gx trivial rfl).1.trans fx_25
                  have fq_38 := (hs.o gx trivial rfl).2.trans fq_38
                  have fq_40 := (hs.o gx trivial rfl).2.trans fq_40
                  have fq_42 := (hs.o gx trivial rfl).2.trans fq_42
                  have fq_44 := (hs.o gx trivial rfl).2.trans fq_44
                  have af_qh : h_45.2.1 qh = hf := (funext fun j => (hs.a gqh rfl j).1).trans af_qh
                  have af_qc : h_45.2.1 qc = plf := (funext fun j => (hs.a gqc rfl j).1).trans af_qc
                  have ex_17 := ex_17.trans (hs.a gq_16 rfl _).1.symm
                  have hM := hM.tr (hs.mono (by decide))
                  have gx := gx.S hs
                  have gqh := gqh.S hs
                  have gqc := gqc.S hs
                  have gq_16 := gq_16.S hs
                  have gq_38 := gq_38.S hs
                  have gq_40 := gq_40.S hs
                  have gq_42 := gq_42.S hs
                  have gq_44 := gq_44.S hs
                  refine lv_aload_n hx hb dX10_file_115 rfl (lv_at hl 1 rfl) ?_
                  refine hx_getn hx hb hts hC_10 hown hW hT gx tt_10 41 (by decide) rfl kw_1184 ⟨rfl, rfl, rfl⟩ dX10_file_116 (fun q_46 fq_46 gq_46 => ?_)
                  refine lv_iload hx hb dX10_file_119 (lv_at hl 0 rfl) ?_
                  refine lv_iload hx hb dX10_file_121 (lv_at hl 6 rfl) ?_
                  refine hx_zast hx hb hW hT (hx_S.rf (M := [(76, 0)])) gq_46 tt_76 rfl ⟨by omega, by omega⟩ (y := _) rfl (hx_nz _) (List.mem_singleton.mpr rfl) dX10_file_123 (fun H locs h_47 eh_47 hW hT hs => ?_)
                  have f_x_47 := (hs.o gx trivial rfl).2.trans f_x_47
                  have f_x_44 := (hs.o gx trivial rfl).2.trans f_x_44
                  have f_x_1 := (hs.o gx trivial rfl).1.trans f_x_1
                  have f_x_36 := (hs.o gx trivial rfl).1.trans f_x_36
                  have f_x_57 := (hs.o gx trivial rfl).1.trans f_x_57
                  have ffv_2 := (hs.o gx trivial rfl).1.trans ffv_2
                  have fq_16 := (hs.o gx trivial rfl).2.trans fq_16
                  have fx_25 := (hs.o gx trivial rfl).1.trans fx_25
                  have fq_38 := (hs.o gx trivial rfl).2.trans fq_38
                  have fq_40 := (hs.o gx trivial rfl).2.trans fq_40
                  have fq_42 := (hs.o gx trivial rfl).2.trans fq_42
                  have fq_44 := (hs.o gx trivial rfl).2.trans fq_44
                  have fq_46 := (hs.o gx trivial rfl).2.trans fq_46
                  have af_qh : h_47.2.1 qh = hf := (funext fun j => (hs.a gqh rfl j).1).trans af_qh
                  have af_qc : h_47.2.1 qc = plf := (funext fun j => (hs.a gqc rfl j).1).trans af_qc
                  have ex_17 := ex_17.trans (hs.a gq_16 rfl _).1.symm
                  have hM := hM.tr (hs.mono (by decide))
                  have gx := gx.S hs
                  have gqh := gqh.S hs
                  have gqc := gqc.S hs
                  have gq_16 := gq_16.S hs
                  have gq_38 := gq_38.S hs
                  have gq_40 := gq_40.S hs
                  have gq_42 := gq_42.S hs
                  have gq_44 := gq_44.S hs
                  have gq_46 := gq_46.S hs
                  refine lv_aload_n hx hb dX10_file_124 rfl (lv_at hl 1 rfl) ?_
                  refine hx_getn hx hb hts hC_10 hown hW hT gx tt_10 42 (by decide) rfl kw_1185 ⟨rfl, rfl, rfl⟩ dX10_file_125 (fun q_48 fq_48 gq_48 => ?_)
                  refine lv_iload hx hb dX10_file_128 (lv_at hl 0 rfl) ?_
                  refine lv_iload hx hb dX10_file_130 (lv_at hl 7 rfl) ?_
                  refine hx_iast hx hb hW hT (hx_S.rf (M := [(77, 0)])) gq_48 tt_77 rfl ⟨by omega, by omega⟩ rfl (i32_r _) (List.mem_singleton.mpr rfl) dX10_file_132 (fun H locs h_49 eh_49 hW hT hs => ?_)
                  have f_x_47 := (hs.o gx trivial rfl).2.trans f_x_47
                  have f_x_44 := (hs.o gx trivial rfl).2.trans f_x_44
                  have f_x_1 := (hs.o gx trivial rfl).1.trans f_x_1
                  have f_x_36 := (hs.o gx trivial rfl).1.trans f_x_36
                  have f_x_57 := (hs.o gx trivial rfl).1.trans f_x_57
                  have ffv_2 := (hs.o gx trivial rfl).1.trans ffv_2
                  have fq_16 := (hs.o gx trivial rfl).2.trans fq_16
                  have fx_25 := (hs.o gx trivial rfl).1.trans fx_25
                  have fq_38 := (hs.o gx trivial rfl).2.trans fq_38
                  have fq_40 := (hs.o gx trivial rfl).2.trans fq_40
                  have fq_42 := (hs.o gx trivial rfl).2.trans fq_42
                  have fq_44 := (hs.o gx trivial rfl).2.trans fq_44
                  have fq_46 := (hs.o gx trivial rfl).2.trans fq_46
                  have fq_48 := (hs.o gx trivial rfl).2.trans fq_48
                  have af_qh : h_49.2.1 qh = hf := (funext fun j => (hs.a gqh rfl j).1).trans af_qh
                  have af_qc : h_49.2.1 qc = plf := (funext fun j => (hs.a gqc rfl j).1).trans af_qc
                  have ex_17 := ex_17.trans (hs.a gq_16 rfl _).1.symm
                  have hM := hM.tr (hs.mono (by decide))
                  have gx := gx.S hs
                  have gqh := gqh.S hs
                  have gqc := gqc.S hs
                  have gq_16 := gq_16.S hs
                  have gq_38 := gq_38.S hs
                  have gq_40 := gq_40.S hs
                  have gq_42 := gq_42.S hs
                  have gq_44 := gq_44.S hs
                  have gq_46 := gq_46.S hs
                  have gq_48 := gq_48.S hs
                  refine lv_aload_n hx hb dX10_file_133 rfl (lv_at hl 1 rfl) ?_
                  refine hx_getn hx hb hts hC_10 hown hW hT gx tt_10 43 (by decide) rfl kw_1186 ⟨rfl, rfl, rfl⟩ dX10_file_134 (fun q_50 fq_50 gq_50 => ?_)
                  refine lv_iload hx hb dX10_file_137 (lv_at hl 0 rfl) ?_
                  refine lv_aload_n hx hb dX10_file_139 rfl (lv_at hl 1 rfl) ?_
                  refine hk_geti hx hb hts hC_10 hown hW gx tt_10 0 (by decide) rfl kw_1143 ⟨rfl, rfl, rfl⟩ fx_25 dX10_file_140 ?_
                  refine hx_iast hx hb hW hT (hx_S.rf (M := [(78, 0)])) gq_50 tt_78 rfl ⟨by omega, by omega⟩ rfl ⟨by omega, by omega⟩ (List.mem_singleton.mpr rfl) dX10_file_143 (fun H locs h_51 eh_51 hW hT hs => ?_)
                  have f_x_47 := (hs.o gx trivial rfl).2.trans f_x_47
                  have f_x_44 := (hs.o gx trivial rfl).2.trans f_x_44
                  have f_x_1 := (hs.o gx trivial rfl).1.trans f_x_1
                  have f_x_36 := (hs.o gx trivial rfl).1.trans f_x_36
                  have f_x_57 := (hs.o gx trivial rfl).1.trans f_x_57
                  have ffv_2 := (hs.o gx trivial rfl).1.trans ffv_2
                  have fq_16 := (hs.o gx trivial rfl).2.trans fq_16
                  have fx_25 := (hs.o gx trivial rfl).1.trans fx_25
                  have fq_38 := (hs.o gx trivial rfl).2.trans fq_38
                  have fq_40 := (hs.o gx trivial rfl).2.trans fq_40
                  have fq_42 := (hs.o gx trivial rfl).2.trans fq_42
                  have fq_44 := (hs.o gx trivial rfl).2.trans fq_44
                  have fq_46 := (hs.o gx trivial rfl).2.trans fq_46
                  have fq_48 := (hs.o gx trivial rfl).2.trans fq_48
                  have fq_50 := (hs.o gx trivial rfl).2.trans fq_50
                  have af_qh : h_51.2.1 qh = hf := (funext fun j => (hs.a gqh rfl j).1).trans af_qh
                  have af_qc : h_51.2.1 qc = plf := (funext fun j => (hs.a gqc rfl j).1).trans af_qc
                  have ex_17 := ex_17.trans (hs.a gq_16 rfl _).1.symm
                  have hM := hM.tr (hs.mono (by decide))
                  have gx := gx.S hs
                  have gqh := gqh.S hs
                  have gqc := gqc.S hs
                  have gq_16 := gq_16.S hs
                  have gq_38 := gq_38.S hs
                  have gq_40 := gq_40.S hs
                  have gq_42 := gq_42.S hs
                  have gq_44 := gq_44.S hs
                  have gq_46 := gq_46.S hs
                  have gq_48 := gq_48.S hs
                  have gq_50 := gq_50.S hs
                  refine lv_aload_n hx hb dX10_file_144 rfl (lv_at hl 1 rfl) ?_
                  refine hk_getr hx hb hts hC_10 hown hW gx tt_10 44 (by decide) rfl kw_1187 ⟨rfl, rfl, rfl⟩ f_x_44 dX10_file_145 ?_
                  refine lv_iload hx hb dX10_file_148 (lv_at hl 0 rfl) ?_
                  refine lv_aload_n hx hb dX10_file_150 rfl (lv_at hl 1 rfl) ?_
                  refine lv_aload_n hx hb dX10_file_151 rfl (lv_at hl 1 rfl) ?_
                  refine hk_geti hx hb hts hC_10 hown hW gx tt_10 0 (by decide) rfl kw_1143 ⟨rfl, rfl, rfl⟩ fx_25 dX10_file_152 ?_
                  refine hx_goi (hx_runV (As := [.int x_25]) (rest := [.int c0, .ref qc]) ⟨hx, hb, hml, hown, hts⟩ hW gx tt_10 (T := TX10) (N := 98) rfl (t_X10_inForce l dC dI dA L_32 h_51 H.size x x_25 hT gx a0 f_x_1) (cwV 1 hts (hx_gV kw_1529 kw_1526 kw_1528 kw_65 kw_103) rfl rfl rfl (by decide +kernel) ⟨Nat.le_of_ble_eq_true rfl, Nat.le_of_ble_eq_true rfl⟩) rfl hl.1 rfl (Nat.le_of_ble_eq_true rfl) dX10_file_155 ⟨Nat.le_of_ble_eq_true rfl, Nat.le_of_ble_eq_true rfl⟩) hW (fun r_54 L_52 h_53 H locs p_55 hW => ?_)
                  obtain ⟨hr_56, hT, hs⟩ := p_55
                  have hT : hx_T T_tb L_52 h_53 := hT
                  have hs : hx_S T_tb [] L_32 h_51 L_52 h_53 := hs
                  have f_x_47 := (hs.o gx trivial rfl).2.trans f_x_47
                  have f_x_44 := (hs.o gx trivial rfl).2.trans f_x_44
                  have f_x_1 := (hs.o gx trivial rfl).1.trans f_x_1
                  have f_x_36 := (hs.o gx trivial rfl).1.trans f_x_36
                  have f_x_57 := (hs.o gx trivial rfl).1.trans f_x_57
                  have ffv_2 := (hs.o gx trivial rfl).1.trans ffv_2
                  have fq_16 := (hs.o gx trivial rfl).2.trans fq_16
                  have fx_25 := (hs.o gx trivial rfl).1.trans fx_25
                  have fq_38 := (hs.o gx trivial rfl).2.trans fq_38
                  have fq_40 := (hs.o gx trivial rfl).2.trans fq_40
                  have fq_42 := (hs.o gx trivial rfl).2.trans fq_42
                  have fq_44 := (hs.o gx trivial rfl).2.trans fq_44
                  have fq_46 := (hs.o gx trivial rfl).2.trans fq_46
                  have fq_48 := (hs.o gx trivial rfl).2.trans fq_48
                  have fq_50 := (hs.o gx trivial rfl).2.trans fq_50
                  have af_qh : h_53.2.1 qh = hf := (funext fun j => (hs.a gqh rfl j).1).trans af_qh
                  have af_qc : h_53.2.1 qc = plf := (funext fun j => (hs.a gqc rfl j).1).trans af_qc
                  have ex_17 := ex_17.trans (hs.a gq_16 rfl _).1.symm
                  have hM := hM.tr (hs.mono (by decide))
                  have gx := gx.S hs
                  have gqh := gqh.S hs
                  have gqc := gqc.S hs
                  have gq_16 := gq_16.S hs
                  have gq_38 := gq_38.S hs
                  have gq_40 := gq_40.S hs
                  have gq_42 := gq_42.S hs
                  have gq_44 := gq_44.S hs
                  have gq_46 := gq_46.S hs
                  have gq_48 := gq_48.S hs
                  have gq_50 := gq_50.S hs
                  have af_qcO := af_qc
                  refine hx_iast hx hb hW hT (hx_S.rf (M := [(79, 0)])) gqc tt_79 rfl ⟨by omega, by omega⟩ rfl ⟨by omega, by omega⟩ (List.mem_singleton.mpr rfl) dX10_file_158 (fun H locs h_57 eh_57 hW hT hs => ?_)
                  have f_x_47 := (hs.o gx trivial rfl).2.trans f_x_47
                  have f_x_44 := (hs.o gx trivial rfl).2.trans f_x_44
                  have f_x_1 := (hs.o gx trivial rfl).1.trans f_x_1
                  have f_x_36 := (hs.o gx trivial rfl).1.trans f_x_36
                  have f_x_57 := (hs.o gx trivial rfl).1.trans f_x_57
                  have ffv_2 := (hs.o gx trivial rfl).1.trans ffv_2
                  have fq_16 := (hs.o gx trivial rfl).2.trans fq_16
                  have fx_25 := (hs.o gx trivial rfl).1.trans fx_25
                  have fq_38 := (hs.o gx trivial rfl).2.trans fq_38
                  have fq_40 := (hs.o gx trivial rfl).2.trans fq_40
                  have fq_42 := (hs.o gx trivial rfl).2.trans fq_42
                  have fq_44 := (hs.o gx trivial rfl).2.trans fq_44
                  have fq_46 := (hs.o gx trivial rfl).2.trans fq_46
                  have fq_48 := (hs.o gx trivial rfl).2.trans fq_48
                  have fq_50 := (hs.o gx trivial rfl).2.trans fq_50
                  have af_qh : h_57.2.1 qh = hf := (funext fun j => (hs.a gqh rfl j).1).trans af_qh
                  have ex_17 := ex_17.trans (hs.a gq_16 rfl _).1.symm
                  have hM := hM.tr (hs.mono (by decide))
                  have gx := gx.S hs
                  have gqh := gqh.S hs
                  have gqc := gqc.S hs
                  have gq_16 := gq_16.S hs
                  have gq_38 := gq_38.S hs
                  have gq_40 := gq_40.S hs
                  have gq_42 := gq_42.S hs
                  have gq_44 := gq_44.S hs
                  have gq_46 := gq_46.S hs
                  have gq_48 := gq_48.S hs
                  have gq_50 := gq_50.S hs
                  obtain ⟨fa_58, dfa_58⟩ : ∃ g : Nat → Int32, g = hx_up plf c0.toNatClampNeg r_54 := ⟨_, rfl⟩
                  have nfa_58 : h_57.2.1 qc = fa_58 := by rw [eh_57, dfa_58, ← af_qcO]; exact hx_pi_fun _ _ _ _
                  refine lv_aload_n hx hb dX10_file_159 rfl (lv_at hl 1 rfl) ?_
                  refine hx_getn hx hb hts hC_10 hown hW hT gx tt_10 46 (by decide) rfl kw_1189 ⟨rfl, rfl, rfl⟩ dX10_file_160 (fun q_59 fq_59 gq_59 => ?_)
                  refine lv_iload hx hb dX10_file_163 (lv_at hl 0 rfl) ?_
                  refine lv_iconst (v := -1) hx hb dX10_file_165 (by decide) ?_
                  refine hx_iast hx hb hW hT (hx_S.rf (M := [(81, 0)])) gq_59 tt_81 rfl ⟨by omega, by omega⟩ rfl (by decide) (List.mem_singleton.mpr rfl) dX10_file_166 (fun H locs h_60 eh_60 hW hT hs => ?_)
                  have f_x_47 := (hs.o gx trivial rfl).2.trans f_x_47
                  have f_x_44 := (hs.o gx trivial rfl).2.trans f_x_44
                  have f_x_1 := (hs.o gx trivial rfl).1.trans f_x_1
                  have f_x_36 := (hs.o gx trivial rfl).1.trans f_x_36
                  have f_x_57 := (hs.o gx trivial rfl).1.trans f_x_57
                  have ffv_2 := (hs.o gx trivial rfl).1.trans ffv_2
                  have fq_16 := (hs.o gx trivial rfl).2.trans fq_16
                  have fx_25 := (hs.o gx trivial rfl).1.trans fx_25
                  have fq_38 := (hs.o gx trivial rfl).2.trans fq_38
                  have fq_40 := (hs.o gx trivial rfl).2.trans fq_40
                  have fq_42 := (hs.o gx trivial rfl).2.trans fq_42
                  have fq_44 := (hs.o gx trivial rfl).2.trans fq_44
                  have fq_46 := (hs.o gx trivial rfl).2.trans fq_46
                  have fq_48 := (hs.o gx trivial rfl).2.trans fq_48
                  have fq_50 := (hs.o gx trivial rfl).2.trans fq_50
                  have fq_59 := (hs.o gx trivial rfl).2.trans fq_59
                  have af_qh : h_60.2.1 qh = hf := (funext fun j => (hs.a gqh rfl j).1).trans af_qh
                  have nfa_58 : h_60.2.1 qc = fa_58 := (funext fun j => (hs.a gqc rfl j).1).trans nfa_58
                  have ex_17 := ex_17.trans (hs.a gq_16 rfl _).1.symm
                  have hM := hM.tr (hs.mono (by decide))
                  have gx := gx.S hs
                  have gqh := gqh.S hs
                  have gqc := gqc.S hs
                  have gq_16 := gq_16.S hs
                  have gq_38 := gq_38.S hs
                  have gq_40 := gq_40.S hs
                  have gq_42 := gq_42.S hs
                  have gq_44 := gq_44.S hs
                  have gq_46 := gq_46.S hs
                  have gq_48 := gq_48.S hs
                  have gq_50 := gq_50.S hs
                  have gq_59 := gq_59.S hs
                  refine lv_aload_n hx hb dX10_file_167 rfl (lv_at hl 1 rfl) ?_
                  refine hk_getr hx hb hts hC_10 hown hW gx tt_10 47 (by decide) rfl kw_1190 ⟨rfl, rfl, rfl⟩ f_x_47 dX10_file_168 ?_
                  refine lv_iload hx hb dX10_file_171 (lv_at hl 0 rfl) ?_
                  refine lv_iconst (v := -1) hx hb dX10_file_173 (by decide) ?_
                  have af_qhO := af_qh
                  refine hx_iast hx hb hW hT (hx_S.rf (M := [(82, 0)])) gqh tt_82 rfl ⟨by omega, by omega⟩ rfl (by decide) (List.mem_singleton.mpr rfl) dX10_file_174 (fun H locs h_61 eh_61 hW hT hs => ?_)
                  have f_x_47 := (hs.o gx trivial rfl).2.trans f_x_47
                  have f_x_44 := (hs.o gx trivial rfl).2.trans f_x_44
                  have f_x_1 := (hs.o gx trivial rfl).1.trans f_x_1
                  have f_x_36 := (hs.o gx trivial rfl).1.trans f_x_36
                  have f_x_57 := (hs.o gx trivial rfl).1.trans f_x_57
                  have ffv_2 := (hs.o gx trivial rfl).1.trans ffv_2
                  have fq_16 := (hs.o gx trivial rfl).2.trans fq_16
                  have fx_25 := (hs.o gx trivial rfl).1.trans fx_25
                  have fq_38 := (hs.o gx trivial rfl).2.trans fq_38
                  have fq_40 := (hs.o gx trivial rfl).2.trans fq_40
                  have fq_42 := (hs.o gx trivial rfl).2.trans fq_42
                  have fq_44 := (hs.o gx trivial rfl).2.trans fq_44
                  have fq_46 := (hs.o gx trivial rfl).2.trans fq_46
                  have fq_48 := (hs.o gx trivial rfl).2.trans fq_48
                  have fq_50 := (hs.o gx trivial rfl).2.trans fq_50
                  have fq_59 := (hs.o gx trivial rfl).2.trans fq_59
                  have nfa_58 : h_61.2.1 qc = fa_58 := (funext fun j => (hs.a gqc rfl j).1).trans nfa_58
                  have ex_17 := ex_17.trans (hs.a gq_16 rfl _).1.symm
                  have hM := hM.tr (hs.mono (by decide))
                  have gx := gx.S hs
                  have gqh := gqh.S hs
                  have gqc := gqc.S hs
                  have gq_16 := gq_16.S hs
                  have gq_38 := gq_38.S hs
                  have gq_40 := gq_40.S hs
                  have gq_42 := gq_42.S hs
                  have gq_44 := gq_44.S hs
                  have gq_46 := gq_46.S hs
                  have gq_48 := gq_48.S hs
                  have gq_50 := gq_50.S hs
                  have gq_59 := gq_59.S hs
                  obtain ⟨fa_62, dfa_62⟩ : ∃ g : Nat → Int32, g = hx_up hf c0.toNatClampNeg (-1 : Int32) := ⟨_, rfl⟩
                  have nfa_62 : h_61.2.1 qh = fa_62 := by rw [eh_61, dfa_62, ← af_qhO]; exact hx_pi_fun _ _ _ _
                  refine lv_aload_n hx hb dX10_file_175 rfl (lv_at hl 1 rfl) ?_
                  refine hx_getn hx hb hts hC_10 hown hW hT gx tt_10 48 (by decide) rfl kw_1191 ⟨rfl, rfl, rfl⟩ dX10_file_176 (fun q_63 fq_63 gq_63 => ?_)
                  refine lv_iload hx hb dX10_file_179 (lv_at hl 0 rfl) ?_
                  refine lv_iconst (v := -1) hx hb dX10_file_181 (by decide) ?_
                  refine hx_iast hx hb hW hT (hx_S.rf (M := [(83, 0)])) gq_63 tt_83 rfl ⟨by omega, by omega⟩ rfl (by decide) (List.mem_singleton.mpr rfl) dX10_file_182 (fun H locs h_64 eh_64 hW hT hs => ?_)
                  have f_x_47 := (hs.o gx trivial rfl).2.trans f_x_47
                  have f_x_44 := (hs.o gx trivial rfl).2.trans f_x_44
                  have f_x_1 := (hs.o gx trivial rfl).1.trans f_x_1
                  have f_x_36 := (hs.o gx trivial rfl).1.trans f_x_36
                  have f_x_57 := (hs.o gx trivial rfl).1.trans f_x_57
                  have ffv_2 := (hs.o gx trivial rfl).1.trans ffv_2
                  have fq_16 := (hs.o gx trivial rfl).2.trans fq_16
                  have fx_25 := (hs.o gx trivial rfl).1.trans fx_25
                  have fq_38 := (hs.o gx trivial rfl).2.trans fq_38
                  have fq_40 := (hs.o gx trivial rfl).2.trans fq_40
                  have fq_42 := (hs.o gx trivial rfl).2.trans fq_42
                  have fq_44 := (hs.o gx trivial rfl).2.trans fq_44
                  have fq_46 := (hs.o gx trivial rfl).2.trans fq_46
                  have fq_48 := (hs.o gx trivial rfl).2.trans fq_48
                  have fq_50 := (hs.o gx trivial rfl).2.trans fq_50
                  have fq_59 := (hs.o gx trivial rfl).2.trans fq_59
                  have fq_63 := (hs.o gx trivial rfl).2.trans fq_63
                  have nfa_58 : h_64.2.1 qc = fa_58 := (funext fun j => (hs.a gqc rfl j).1).trans nfa_58
                  have nfa_62 : h_64.2.1 qh = fa_62 := (funext fun j => (hs.a gqh rfl j).1).trans nfa_62
                  have ex_17 := ex_17.trans (hs.a gq_16 rfl _).1.symm
                  have hM := hM.tr (hs.mono (by decide))
                  have gx := gx.S hs
                  have gqh := gqh.S hs
                  have gqc := gqc.S hs
                  have gq_16 := gq_16.S hs
                  have gq_38 := gq_38.S hs
                  have gq_40 := gq_40.S hs
                  have gq_42 := gq_42.S hs
                  have gq_44 := gq_44.S hs
                  have gq_46 := gq_46.S hs
                  have gq_48 := gq_48.S hs
                  have gq_50 := gq_50.S hs
                  have gq_59 := gq_59.S hs
                  have gq_63 := gq_63.S hs
                  refine lv_aload_n hx hb dX10_file_183 rfl (lv_at hl 1 rfl) ?_
                  refine hx_getn hx hb hts hC_10 hown hW hT gx tt_10 49 (by decide) rfl kw_1192 ⟨rfl, rfl, rfl⟩ dX10_file_184 (fun q_65 fq_65 gq_65 => ?_)
                  refine lv_iload hx hb dX10_file_187 (lv_at hl 0 rfl) ?_
                  refine lv_iconst (v := -1) hx hb dX10_file_189 (by decide) ?_
                  refine hx_iast hx hb hW hT (hx_S.rf (M := [(84, 0)])) gq_65 tt_84 rfl ⟨by omega, by omega⟩ rfl (by decide) (List.mem_singleton.mpr rfl) dX10_file_190 (fun H locs h_66 eh_66 hW hT hs => ?_)
                  have f_x_47 := (hs.o gx trivial rfl).2.trans f_x_47
                  have f_x_44 := (hs.o gx trivial rfl).2.trans f_x_44
                  have f_x_1 := (hs.o gx trivial rfl).1.trans f_x_1
                  have f_x_36 := (hs.o gx trivial rfl).1.trans f_x_36
                  have f_x_57 := (hs.o gx trivial rfl).1.trans f_x_57
                  have ffv_2 := (hs.o gx trivial rfl).1.trans ffv_2
                  have fq_16 := (hs.o gx trivial rfl).2.trans fq_16
                  have fx_25 := (hs.o gx trivial rfl).1.trans fx_25
                  have fq_38 := (hs.o gx trivial rfl).2.trans fq_38
                  have fq_40 := (hs.o gx trivial rfl).2.trans fq_40
                  have fq_42 := (hs.o gx trivial rfl).2.trans fq_42
                  have fq_44 := (hs.o gx trivial rfl).2.trans fq_44
                  have fq_46 := (hs.o gx trivial rfl).2.trans fq_46
                  have fq_48 := (hs.o gx trivial rfl).2.trans fq_48
                  have fq_50 := (hs.o gx trivial rfl).2.trans fq_50
                  have fq_59 := (hs.o gx trivial rfl).2.trans fq_59
                  have fq_63 := (hs.o gx trivial rfl).2.trans fq_63
                  have fq_65 := (hs.o gx trivial rfl).2.trans fq_65
                  have nfa_58 : h_66.2.1 qc = fa_58 := (funext fun j => (hs.a gqc rfl j).1).trans nfa_58
                  have nfa_62 : h_66.2.1 qh = fa_62 := (funext fun j => (hs.a gqh rfl j).1).trans nfa_62
                  have ex_17 := ex_17.trans (hs.a gq_16 rfl _).1.symm
                  have hM := hM.tr (hs.mono (by decide))
                  have gx := gx.S hs
                  have gqh := gqh.S hs
                  have gqc := gqc.S hs
                  have gq_16 := gq_16.S hs
                  have gq_38 := gq_38.S hs
                  have gq_40 := gq_40.S hs
                  have gq_42 := gq_42.S hs
                  have gq_44 := gq_44.S hs
                  have gq_46 := gq_46.S hs
                  have gq_48 := gq_48.S hs
                  have gq_50 := gq_50.S hs
                  have gq_59 := gq_59.S hs
                  have gq_63 := gq_63.S hs
                  have gq_65 := gq_65.S hs
                  refine lv_aload_n hx hb dX10_file_191 rfl (lv_at hl 1 rfl) ?_
                  refine hx_getn hx hb hts hC_10 hown hW hT gx tt_10 50 (by decide) rfl kw_1193 ⟨rfl, rfl, rfl⟩ dX10_file_192 (fun q_67 fq_67 gq_67 => ?_)
                  refine lv_iload hx hb dX10_file_195 (lv_at hl 0 rfl) ?_
                  refine lv_iconst (v := -1) hx hb dX10_file_197 (by decide) ?_
                  refine hx_iast hx hb hW hT (hx_S.rf (M := [(85, 0)])) gq_67 tt_85 rfl ⟨by omega, by omega⟩ rfl (by decide) (List.mem_singleton.mpr rfl) dX10_file_198 (fun H locs h_68 eh_68 hW hT hs => ?_)
                  have f_x_47 := (hs.o gx trivial rfl).2.trans f_x_47
                  have f_x_44 := (hs.o gx trivial rfl).2.trans f_x_44
                  have f_x_1 := (hs.o gx trivial rfl).1.trans f_x_1
                  have f_x_36 := (hs.o gx trivial rfl).1.trans f_x_36
                  have f_x_57 := (hs.o gx trivial rfl).1.trans f_x_57
                  have ffv_2 := (hs.o gx trivial rfl).1.trans ffv_2
                  have fq_16 := (hs.o gx trivial rfl).2.trans fq_16
                  have fx_25 := (hs.o gx trivial rfl).1.trans fx_25
                  have fq_38 := (hs.o gx trivial rfl).2.trans fq_38
                  have fq_40 := (hs.o gx trivial rfl).2.trans fq_40
                  have fq_42 := (hs.o gx trivial rfl).2.trans fq_42
                  have fq_44 := (hs.o gx trivial rfl).2.trans fq_44
                  have fq_46 := (hs.o gx trivial rfl).2.trans fq_46
                  have fq_48 := (hs.o gx trivial rfl).2.trans fq_48
                  have fq_50 := (hs.o gx trivial rfl).2.trans fq_50
                  have fq_59 := (hs.o gx trivial rfl).2.trans fq_59
                  have fq_63 := (hs.o gx trivial rfl).2.trans fq_63
                  have fq_65 := (hs.o gx trivial rfl).2.trans fq_65
                  have fq_67 := (hs.o gx trivial rfl).2.trans fq_67
                  have nfa_58 : h_68.2.1 qc = fa_58 := (funext fun j => (hs.a gqc rfl j).1).trans nfa_58
                  have nfa_62 : h_68.2.1 qh = fa_62 := (funext fun j => (hs.a gqh rfl j).1).trans nfa_62
                  have ex_17 := ex_17.trans (hs.a gq_16 rfl _).1.symm
                  have hM := hM.tr (hs.mono (by decide))
                  have gx := gx.S hs
                  have gqh := gqh.S hs
                  have gqc := gqc.S hs
                  have gq_16 := gq_16.S hs
                  have gq_38 := gq_38.S hs
                  have gq_40 := gq_40.S hs
                  have gq_42 := gq_42.S hs
                  have gq_44 := gq_44.S hs
                  have gq_46 := gq_46.S hs
                  have gq_48 := gq_48.S hs
                  have gq_50 := gq_50.S hs
                  have gq_59 := gq_59.S hs
                  have gq_63 := gq_63.S hs
                  have gq_65 := gq_65.S hs
                  have gq_67 := gq_67.S hs
                  refine lv_iconst (v := 0) hx hb dX10_file_199 (by decide) ?_
                  refine lv_istore (lv' := [(8, .int (0 : Int32)), (7, .int c0), (0, .ref x), (1, .int i1), (2, .int i2), (3, .int i3), (4, .int i4), (5, .int i5), (6, .int i6)]) hx hb dX10_file_200 hl (by decide) rfl (fun ls hl => ?_)
                  have loop202 : ∀ (n202 : Nat) (iv202_8 : Int32) (H : Heap) (locs : List Loc) (hL1 : List Nat) (hl1 : hx_h), 0 ≤ iv202_8.toInt → iv202_8.toInt ≤ 3 → ∀ (ls : Array Slot), 3 - iv202_8.toInt < (n202 : Int) → hx_W T_tb (P_ty dA) (dC, dI) vwCl (hx_A L sz) s.heap hL1 hl1 s H locs → hx_T T_tb hL1 hl1 → hx_S T_tb [(10, 36), (72, 0), (73, 0), (74, 0), (75, 0), (76, 0), (77, 0), (78, 0), (79, 0), (81, 0), (82, 0), (83, 0), (84, 0), (85, 0), (87, 0)] L h hL1 hl1 → hl1.2.2 x 47 = some qh → hl1.2.2 x 44 = some qc → hl1.2.1 x 1 = a0 → hl1.2.1 x 36 = c0 → hl1.2.1 x 57 = m0 → hl1.2.1 x 20 = fv_2 → hl1.2.2 x 27 = some q_16 → hl1.2.1 x 0 = x_25 → hl1.2.2 x 37 = some q_38 → hl1.2.2 x 38 = some q_40 → hl1.2.2 x 39 = some q_42 → hl1.2.2 x 40 = some q_44 → hl1.2.2 x 41 = some q_46 → hl1.2.2 x 42 = some q_48 → hl1.2.2 x 43 = some q_50 → hl1.2.2 x 46 = some q_59 → hl1.2.2 x 48 = some q_63 → hl1.2.2 x 49 = some q_65 → hl1.2.2 x 50 = some q_67 → hx_g hL1 hl1 x 10 → hx_g hL1 hl1 qh 82 → hx_g hL1 hl1 qc 79 → hx_g hL1 hl1 q_16 64 → hx_g hL1 hl1 q_38 72 → hx_g hL1 hl1 q_40 73 → hx_g hL1 hl1 q_42 74 → hx_g hL1 hl1 q_44 75 → hx_g hL1 hl1 q_46 76 → hx_g hL1 hl1 q_48 77 → hx_g hL1 hl1 q_50 78 → hx_g hL1 hl1 q_59 81 → hx_g hL1 hl1 q_63 83 → hx_g hL1 hl1 q_65 84 → hx_g hL1 hl1 q_67 85 → hl1.2.1 qc = fa_58 → hl1.2.1 qh = fa_62 → lv_has ls 9 [(8, .int iv202_8), (7, .int c0), (0, .ref x), (1, .int i1), (2, .int i2), (3, .int i3), (4, .int i4), (5, .int i5), (6, .int i6)] → W p l e ({ frames := 2, cells := 0, slots := 0, locals := 43 }) s m ([.ref x, .int i1, .int i2, .int i3, .int i4, .int i5, .int i6] : List Value).toArray below meth c H locs 0 0 (MQ below (va_Qi (fun (r : Int32) (u : List Nat × hx_h) => (∃ (c1 : Int32) (hf1 : Nat → Int32) (plf1 : Nat → Int32), u.2.2.1 x 36 = c1 ∧ u.2.2.1 qh = hf1 ∧ u.2.2.1 qc = plf1 ∧ (m0.toInt = hx_hc hf1 c1.toInt.toNat ∧ hx_PL plf1 c1.toInt a0.toInt)) ∧ hx_T T_tb u.1 u.2 ∧ hx_S T_tb [(10, 36), (72, 0), (73, 0), (74, 0), (75, 0), (76, 0), (77, 0), (78, 0), (79, 0), (81, 0), (82, 0), (83, 0), (84, 0), (85, 0), (87, 0)] L h u.1 u.2) (hx_E T_tb (P_ty dA) (dC, dI) vwCl (hx_A L sz)) (hx_A L sz)) ([.ref x, .int i1, .int i2, .int i3, .int i4, .int i5, .int i6] : List Value).toArray s 0 0 (hx_A L sz)) (F0 m 202 ls []) := by
                    intro n202
                    induction n202 with
                    | zero => intro iv202_8 H locs hL1 hl1 bliv202_8 buiv202_8  ls hn202; exfalso; omega
                    | succ n202 ih202 =>
                      intro iv202_8 H locs hL1 hl1 bliv202_8 buiv202_8  ls hn202 hW hT hM f_x_47 f_x_44 f_x_1 f_x_36 f_x_57 ffv_2 fq_16 fx_25 fq_38 fq_40 fq_42 fq_44 fq_46 fq_48 fq_50 fq_59 fq_63 fq_65 fq_67 gx gqh gqc gq_16 gq_38 gq_40 gq_42 gq_44 gq_46 gq_48 gq_50 gq_59 gq_63 gq_65 gq_67 nfa_58 nfa_62 hl
                      refine lv_iload hx hb dX10_file_202 (lv_at hl 0 rfl) ?_
                      refine lv_iconst (v := 3) hx hb dX10_file_204 (by decide) ?_
                      refine hb_icmp_ge (zx := iv202_8.toInt) (zy := 3) (tgt := 227) hx hb rfl (by decide) dX10_file_205 (by decide) (fun c_69 => ?_) (fun c_69 => ?_)
                      · skip
                        refine lv_aload_n hx hb dX10_file_227 rfl (lv_at hl 2 rfl) ?_
                        refine lv_dup hx hb dX10_file_228 rfl ?_
                        refine hk_geti hx hb hts hC_10 hown hW gx tt_10 36 (by decide) rfl kw_1179 ⟨rfl, rfl, rfl⟩ f_x_36 dX10_file_229 ?_
                        refine lv_iconst (v := 1) hx hb dX10_file_232 (by decide) ?_
                        refine lv_iadd hx hb dX10_file_233 ?_
                        have rg_70 := i32_r c0
                        refine lv_topi (fun x_71 ex_71 => ?_)
                        have zx_71 : x_71.toInt = c0.toInt + 1 := by rw [ex_71]; exact i32_add rfl (by decide) (by omega) (by omega)
                        refine hx_puti hx hb hts hC_10 hown hW hT (hx_S.rf (M := [(10, 36)])) gx tt_10 36 (by decide) rfl kw_1179 ⟨rfl, rfl, rfl⟩ rfl (x := x_71) ⟨by omega, by omega⟩ rfl rfl rfl (List.mem_singleton.mpr rfl) dX10_file_234 (fun H locs h_72 eh_72 hW hT hs => ?_)
                        have f_x_47 := (hs.o gx trivial rfl).2.trans f_x_47
                        have f_x_44 := (hs.o gx trivial rfl).2.trans f_x_44
                        have f_x_1 := (hs.o gx trivial rfl).1.trans f_x_1
                        have f_x_57 := (hs.o gx trivial rfl).1.trans f_x_57
                        have ffv_2 := (hs.o gx trivial rfl).1.trans ffv_2
                        have fq_16 := (hs.o gx trivial rfl).2.trans fq_16
                        have fx_25 := (hs.o gx trivial rfl).1.trans fx_25
                        have fq_38 := (hs.o gx trivial rfl).2.trans fq_38
                        have fq_40 := (hs.o gx trivial rfl).2.trans fq_40
                        have fq_42 := (hs.o gx trivial rfl).2.trans fq_42
                        have fq_44 := (hs.o gx trivial rfl).2.trans fq_44
                        have fq_46 := (hs.o gx trivial rfl).2.trans fq_46
                        have fq_48 := (hs.o gx trivial rfl).2.trans fq_48
                        have fq_50 := (hs.o gx trivial rfl).2.trans fq_50
                        have fq_59 := (hs.o gx trivial rfl).2.trans fq_59
                        have fq_63 := (hs.o gx trivial rfl).2.trans fq_63
                        have fq_65 := (hs.o gx trivial rfl).2.trans fq_65
                        have fq_67 := (hs.o gx trivial rfl).2.trans fq_67
                        have nfa_58 : h_72.2.1 qc = fa_58 := (funext fun j => (hs.a gqc rfl j).1).trans nfa_58
                        have nfa_62 : h_72.2.1 qh = fa_62 := (funext fun j => (hs.a gqh rfl j).1).trans nfa_62
                        have hM := hM.tr (hs.mono (by decide))
                        have gx := gx.S hs
                        have gqh := gqh.S hs
                        have gqc := gqc.S hs
                        have gq_16 := gq_16.S hs
                        have gq_38 := gq_38.S hs
                        have gq_40 := gq_40.S hs
                        have gq_42 := gq_42.S hs
                        have gq_44 := gq_44.S hs
                        have gq_46 := gq_46.S hs
                        have gq_48 := gq_48.S hs
                        have gq_50 := gq_50.S hs
                        have gq_59 := gq_59.S hs
                        have gq_63 := gq_63.S hs
                        have gq_65 := gq_65.S hs
                        have gq_67 := gq_67.S hs
                        have f_73 : h_72.2.1 x 36 = x_71 := by rw [eh_72]; exact hx_pi_at _ _ _ _
                        refine lv_iload hx hb dX10_file_237 (lv_at hl 1 rfl) ?_
                        exact hx_reti hx hb hr hlk hW ⟨⟨x_71, fa_62, fa_58, f_73, nfa_62, nfa_58, ⟨hx_filed hHC (by omega) rfl (by decide) dfa_62 (by omega), hx_PL_up hPL rfl (by omega) ⟨by omega, by omega⟩ dfa_58 (by omega)⟩⟩, hT, hM⟩ dX10_file_239
                      · skip
                        refine lv_aload_n hx hb dX10_file_208 rfl (lv_at hl 2 rfl) ?_
                        refine hx_getn hx hb hts hC_10 hown hW hT gx tt_10 52 (by decide) rfl kw_1195 ⟨rfl, rfl, rfl⟩ dX10_file_209 (fun q_74 fq_74 gq_74 => ?_)
                        refine lv_iconst (v := 3) hx hb dX10_file_212 (by decide) ?_
                        refine lv_iload hx hb dX10_file_213 (lv_at hl 1 rfl) ?_
                        refine lv_imul hx hb dX10_file_215 ?_
                        refine lv_topi (fun x_75 ex_75 => ?_)
                        have zx_75 : x_75.toInt = 3 * c0.toInt := by rw [ex_75]; exact i32_mul (by decide) rfl rfl (by omega) (by omega)
                        refine lv_iload hx hb dX10_file_216 (lv_at hl 0 rfl) ?_
                        refine lv_iadd hx hb dX10_file_218 ?_
                        have rg_76 := i32_r x_75
                        have rg_77 := i32_r iv202_8
                        refine lv_topi (fun x_78 ex_78 => ?_)
                        have zx_78 : x_78.toInt = x_75.toInt + iv202_8.toInt := by rw [ex_78]; exact i32_add rfl rfl (by omega) (by omega)
                        refine lv_iconst (v := -1) hx hb dX10_file_219 (by decide) ?_
                        refine hx_iast hx hb hW hT (hx_S.rf (M := [(87, 0)])) gq_74 tt_87 rfl ⟨by omega, by omega⟩ rfl (by decide) (List.mem_singleton.mpr rfl) dX10_file_220 (fun H locs h_79 eh_79 hW hT hs => ?_)
                        have f_x_47 := (hs.o gx trivial rfl).2.trans f_x_47
                        have f_x_44 := (hs.o gx trivial rfl).2.trans f_x_44
                        have f_x_1 := (hs.o gx trivial rfl).1.trans f_x_1
                        have f_x_36 := (hs.o gx trivial rfl).1.trans f_x_36
                        have f_x_57 := (hs.o gx trivial rfl).1.trans f_x_57
                        have ffv_2 := (hs.o gx trivial rfl).1.trans ffv_2
                        have fq_16 := (hs.o gx trivial rfl).2.trans fq_16
                        have fx_25 := (hs.o gx trivial rfl).1.trans fx_25
                        have fq_38 := (hs.o gx trivial rfl).2.trans fq_38
                        have fq_40 := (hs.o gx trivial rfl).2.trans fq_40
                        have fq_42 := (hs.o gx trivial rfl).2.trans fq_42
                        have fq_44 := (hs.o gx trivial rfl).2.trans fq_44
                        have fq_46 := (hs.o gx trivial rfl).2.trans fq_46
                        have fq_48 := (hs.o gx trivial rfl).2.trans fq_48
                        have fq_50 := (hs.o gx trivial rfl).2.trans fq_50
                        have fq_59 := (hs.o gx trivial rfl).2.trans fq_59
                        have fq_63 := (hs.o gx trivial rfl).2.trans fq_63
                        have fq_65 := (hs.o gx trivial rfl).2.trans fq_65
                        have fq_67 := (hs.o gx trivial rfl).2.trans fq_67
                        have fq_74 := (hs.o gx trivial rfl).2.trans fq_74
                        have nfa_58 : h_79.2.1 qc = fa_58 := (funext fun j => (hs.a gqc rfl j).1).trans nfa_58
                        have nfa_62 : h_79.2.1 qh = fa_62 := (funext fun j => (hs.a gqh rfl j).1).trans nfa_62
                        have hM := hM.tr (hs.mono (by decide))
                        have gx := gx.S hs
                        have gqh := gqh.S hs
                        have gqc := gqc.S hs
                        have gq_16 := gq_16.S hs
                        have gq_38 := gq_38.S hs
                        have gq_40 := gq_40.S hs
                        have gq_42 := gq_42.S hs
                        have gq_44 := gq_44.S hs
                        have gq_46 := gq_46.S hs
                        have gq_48 := gq_48.S hs
                        have gq_50 := gq_50.S hs
                        have gq_59 := gq_59.S hs
                        have gq_63 := gq_63.S hs
                        have gq_65 := gq_65.S hs
                        have gq_67 := gq_67.S hs
                        have gq_74 := gq_74.S hs
                        obtain ⟨x_80, ex_80⟩ : ∃ y : Int32, y = iv202_8 + Int32.ofInt 1 := ⟨_, rfl⟩
                        have zx_80 : x_80.toInt = iv202_8.toInt + (1) := by rw [ex_80]; exact i32_add rfl (by decide) (by omega) (by omega)
                        refine lv_iinc (v := x_80) (lv' := [(8, .int x_80), (7, .int c0), (0, .ref x), (1, .int i1), (2, .int i2), (3, .int i3), (4, .int i4), (5, .int i5), (6, .int i6)]) hx hb dX10_file_221 hl (k := 0) rfl ex_80.symm (by decide) rfl (fun ls hl => ?_)
                        refine lv_goto (tgt := 202) hx hb dX10_file_224 (by decide) ?_
                        exact ih202 x_80 _ _ hL1 h_79 (by omega) (by omega)  ls (by omega) hW hT hM f_x_47 f_x_44 f_x_1 f_x_36 f_x_57 ffv_2 fq_16 fx_25 fq_38 fq_40 fq_42 fq_44 fq_46 fq_48 fq_50 fq_59 fq_63 fq_65 fq_67 gx gqh gqc gq_16 gq_38 gq_40 gq_42 gq_44 gq_46 gq_48 gq_50 gq_59 gq_63 gq_65 gq_67 nfa_58 nfa_62 (lv_sub hl [0, 1, 2, 3, 4, 5, 6, 7, 8] rfl)
                  have zk_0 : (0 : Int32).toInt = 0 := by decide
                  exact loop202 4 (0 : Int32) _ _ L_52 h_68 (by decide) (by decide)  ls (by omega) hW hT hM f_x_47 f_x_44 f_x_1 f_x_36 f_x_57 ffv_2 fq_16 fx_25 fq_38 fq_40 fq_42 fq_44 fq_46 fq_48 fq_50 fq_59 fq_63 fq_65 fq_67 gx gqh gqc gq_16 gq_38 gq_40 gq_42 gq_44 gq_46 gq_48 gq_50 gq_59 gq_63 gq_65 gq_67 nfa_58 nfa_62 hl
                · skip
                  refine lv_iconst (v := -1) hx hb dX10_file_74 (by decide) ?_
                  exact hx_reti hx hb hr hlk hW ⟨⟨c0, hf, plf, f_x_36, af_qh, af_qc, ⟨hHC, hPL⟩⟩, hT, hM⟩ dX10_file_75
