theorem dX10_init_0 : decode cX10_init 0 = .ok (.aload_n 0, 1) := by decide +kernel
theorem dX10_init_1 : decode cX10_init 1 = .ok (.invokespecial 1, 3) := by decide +kernel
theorem dX10_init_4 : decode cX10_init 4 = .ok (.aload_n 0, 1) := by decide +kernel
theorem dX10_init_5 : decode cX10_init 5 = .ok (.bipush 9, 2) := by decide +kernel
theorem dX10_init_7 : decode cX10_init 7 = .ok (.newarray .int, 2) := by decide +kernel
theorem dX10_init_9 : decode cX10_init 9 = .ok (.putfield 7, 3) := by decide +kernel
theorem dX10_init_12 : decode cX10_init 12 = .ok (.aload_n 0, 1) := by decide +kernel
theorem dX10_init_13 : decode cX10_init 13 = .ok (.bipush 117, 2) := by decide +kernel
theorem dX10_init_15 : decode cX10_init 15 = .ok (.newarray .int, 2) := by decide +kernel
theorem dX10_init_17 : decode cX10_init 17 = .ok (.putfield 13, 3) := by decide +kernel
theorem dX10_init_20 : decode cX10_init 20 = .ok (.aload_n 0, 1) := by decide +kernel
theorem dX10_init_21 : decode cX10_init 21 = .ok (.bipush 9, 2) := by decide +kernel
theorem dX10_init_23 : decode cX10_init 23 = .ok (.newarray .int, 2) := by decide +kernel
theorem dX10_init_25 : decode cX10_init 25 = .ok (.putfield 16, 3) := by decide +kernel
theorem dX10_init_28 : decode cX10_init 28 = .ok (.aload_n 0, 1) := by decide +kernel
theorem dX10_init_29 : decode cX10_init 29 = .ok (.sipush 1152, 3) := by decide +kernel
theorem dX10_init_32 : decode cX10_init 32 = .ok (.newarray .int, 2) := by decide +kernel
theorem dX10_init_34 : decode cX10_init 34 = .ok (.putfield 19, 3) := by decide +kernel
theorem dX10_init_37 : decode cX10_init 37 = .ok (.aload_n 0, 1) := by decide +kernel
theorem dX10_init_38 : decode cX10_init 38 = .ok (.sipush 400, 3) := by decide +kernel
theorem dX10_init_41 : decode cX10_init 41 = .ok (.newarray .byte, 2) := by decide +kernel
theorem dX10_init_43 : decode cX10_init 43 = .ok (.putfield 22, 3) := by decide +kernel
theorem dX10_init_46 : decode cX10_init 46 = .ok (.aload_n 0, 1) := by decide +kernel
theorem dX10_init_47 : decode cX10_init 47 = .ok (.bipush 13, 2) := by decide +kernel
theorem dX10_init_49 : decode cX10_init 49 = .ok (.newarray .int, 2) := by decide +kernel
theorem dX10_init_51 : decode cX10_init 51 = .ok (.putfield 26, 3) := by decide +kernel
theorem dX10_init_54 : decode cX10_init 54 = .ok (.aload_n 0, 1) := by decide +kernel
theorem dX10_init_55 : decode cX10_init 55 = .ok (.sipush 128, 3) := by decide +kernel
theorem dX10_init_58 : decode cX10_init 58 = .ok (.newarray .int, 2) := by decide +kernel
theorem dX10_init_60 : decode cX10_init 60 = .ok (.putfield 29, 3) := by decide +kernel
theorem dX10_init_63 : decode cX10_init 63 = .ok (.aload_n 0, 1) := by decide +kernel
theorem dX10_init_64 : decode cX10_init 64 = .ok (.sipush 128, 3) := by decide +kernel
theorem dX10_init_67 : decode cX10_init 67 = .ok (.newarray .int, 2) := by decide +kernel
theorem dX10_init_69 : decode cX10_init 69 = .ok (.putfield 32, 3) := by decide +kernel
theorem dX10_init_72 : decode cX10_init 72 = .ok (.aload_n 0, 1) := by decide +kernel
theorem dX10_init_73 : decode cX10_init 73 = .ok (.sipush 175, 3) := by decide +kernel
theorem dX10_init_76 : decode cX10_init 76 = .ok (.newarray .byte, 2) := by decide +kernel
theorem dX10_init_78 : decode cX10_init 78 = .ok (.dup, 1) := by decide +kernel
theorem dX10_init_79 : decode cX10_init 79 = .ok (.iconst 0, 1) := by decide +kernel
theorem dX10_init_80 : decode cX10_init 80 = .ok (.bipush 111, 2) := by decide +kernel
theorem dX10_init_82 : decode cX10_init 82 = .ok (.bastore, 1) := by decide +kernel
theorem dX10_init_83 : decode cX10_init 83 = .ok (.dup, 1) := by decide +kernel
theorem dX10_init_84 : decode cX10_init 84 = .ok (.iconst 1, 1) := by decide +kernel
theorem dX10_init_85 : decode cX10_init 85 = .ok (.bipush 114, 2) := by decide +kernel
theorem dX10_init_87 : decode cX10_init 87 = .ok (.bastore, 1) := by decide +kernel
theorem dX10_init_88 : decode cX10_init 88 = .ok (.dup, 1) := by decide +kernel
theorem dX10_init_89 : decode cX10_init 89 = .ok (.iconst 2, 1) := by decide +kernel
theorem dX10_init_90 : decode cX10_init 90 = .ok (.iconst 0, 1) := by decide +kernel
theorem dX10_init_91 : decode cX10_init 91 = .ok (.bastore, 1) := by decide +kernel
theorem dX10_init_92 : decode cX10_init 92 = .ok (.dup, 1) := by decide +kernel
theorem dX10_init_93 : decode cX10_init 93 = .ok (.iconst 3, 1) := by decide +kernel
theorem dX10_init_94 : decode cX10_init 94 = .ok (.iconst 0, 1) := by decide +kernel
theorem dX10_init_95 : decode cX10_init 95 = .ok (.bastore, 1) := by decide +kernel
theorem dX10_init_96 : decode cX10_init 96 = .ok (.dup, 1) := by decide +kernel
theorem dX10_init_97 : decode cX10_init 97 = .ok (.iconst 4, 1) := by decide +kernel
theorem dX10_init_98 : decode cX10_init 98 = .ok (.iconst 0, 1) := by decide +kernel
theorem dX10_init_99 : decode cX10_init 99 = .ok (.bastore, 1) := by decide +kernel
theorem dX10_init_100 : decode cX10_init 100 = .ok (.dup, 1) := by decide +kernel
theorem dX10_init_101 : decode cX10_init 101 = .ok (.iconst 5, 1) := by decide +kernel
theorem dX10_init_102 : decode cX10_init 102 = .ok (.iconst 0, 1) := by decide +kernel
theorem dX10_init_103 : decode cX10_init 103 = .ok (.bastore, 1) := by decide +kernel
theorem dX10_init_104 : decode cX10_init 104 = .ok (.dup, 1) := by decide +kernel
theorem dX10_init_105 : decode cX10_init 105 = .ok (.bipush 6, 2) := by decide +kernel
theorem dX10_init_107 : decode cX10_init 107 = .ok (.iconst 0, 1) := by decide +kernel
theorem dX10_init_108 : decode cX10_init 108 = .ok (.bastore, 1) := by decide +kernel
theorem dX10_init_109 : decode cX10_init 109 = .ok (.dup, 1) := by decide +kernel
theorem dX10_init_110 : decode cX10_init 110 = .ok (.bipush 7, 2) := by decide +kernel
theorem dX10_init_112 : decode cX10_init 112 = .ok (.bipush 97, 2) := by decide +kernel
theorem dX10_init_114 : decode cX10_init 114 = .ok (.bastore, 1) := by decide +kernel
theorem dX10_init_115 : decode cX10_init 115 = .ok (.dup, 1) := by decide +kernel
theorem dX10_init_116 : decode cX10_init 116 = .ok (.bipush 8, 2) := by decide +kernel
theorem dX10_init_118 : decode cX10_init 118 = .ok (.bipush 110, 2) := by decide +kernel
theorem dX10_init_120 : decode cX10_init 120 = .ok (.bastore, 1) := by decide +kernel
theorem dX10_init_121 : decode cX10_init 121 = .ok (.dup, 1) := by decide +kernel
theorem dX10_init_122 : decode cX10_init 122 = .ok (.bipush 9, 2) := by decide +kernel
theorem dX10_init_124 : decode cX10_init 124 = .ok (.bipush 100, 2) := by decide +kernel
theorem dX10_init_126 : decode cX10_init 126 = .ok (.bastore, 1) := by decide +kernel
theorem dX10_init_127 : decode cX10_init 127 = .ok (.dup, 1) := by decide +kernel
theorem dX10_init_128 : decode cX10_init 128 = .ok (.bipush 10, 2) := by decide +kernel
theorem dX10_init_130 : decode cX10_init 130 = .ok (.iconst 0, 1) := by decide +kernel
theorem dX10_init_131 : decode cX10_init 131 = .ok (.bastore, 1) := by decide +kernel
theorem dX10_init_132 : decode cX10_init 132 = .ok (.dup, 1) := by decide +kernel
theorem dX10_init_133 : decode cX10_init 133 = .ok (.bipush 11, 2) := by decide +kernel
theorem dX10_init_135 : decode cX10_init 135 = .ok (.iconst 0, 1) := by decide +kernel
theorem dX10_init_136 : decode cX10_init 136 = .ok (.bastore, 1) := by decide +kernel
theorem dX10_init_137 : decode cX10_init 137 = .ok (.dup, 1) := by decide +kernel
theorem dX10_init_138 : decode cX10_init 138 = .ok (.bipush 12, 2) := by decide +kernel
theorem dX10_init_140 : decode cX10_init 140 = .ok (.iconst 0, 1) := by decide +kernel
theorem dX10_init_141 : decode cX10_init 141 = .ok (.bastore, 1) := by decide +kernel
theorem dX10_init_142 : decode cX10_init 142 = .ok (.dup, 1) := by decide +kernel
theorem dX10_init_143 : decode cX10_init 143 = .ok (.bipush 13, 2) := by decide +kernel
theorem dX10_init_145 : decode cX10_init 145 = .ok (.iconst 0, 1) := by decide +kernel
theorem dX10_init_146 : decode cX10_init 146 = .ok (.bastore, 1) := by decide +kernel
theorem dX10_init_147 : decode cX10_init 147 = .ok (.dup, 1) := by decide +kernel
theorem dX10_init_148 : decode cX10_init 148 = .ok (.bipush 14, 2) := by decide +kernel
theorem dX10_init_150 : decode cX10_init 150 = .ok (.bipush 110, 2) := by decide +kernel
theorem dX10_init_152 : decode cX10_init 152 = .ok (.bastore, 1) := by decide +kernel
theorem dX10_init_153 : decode cX10_init 153 = .ok (.dup, 1) := by decide +kernel
theorem dX10_init_154 : decode cX10_init 154 = .ok (.bipush 15, 2) := by decide +kernel
theorem dX10_init_156 : decode cX10_init 156 = .ok (.bipush 111, 2) := by decide +kernel
theorem dX10_init_158 : decode cX10_init 158 = .ok (.bastore, 1) := by decide +kernel
theorem dX10_init_159 : decode cX10_init 159 = .ok (.dup, 1) := by decide +kernel
theorem dX10_init_160 : decode cX10_init 160 = .ok (.bipush 16, 2) := by decide +kernel
theorem dX10_init_162 : decode cX10_init 162 = .ok (.bipush 116, 2) := by decide +kernel
theorem dX10_init_164 : decode cX10_init 164 = .ok (.bastore, 1) := by decide +kernel
theorem dX10_init_165 : decode cX10_init 165 = .ok (.dup, 1) := by decide +kernel
theorem dX10_init_166 : decode cX10_init 166 = .ok (.bipush 17, 2) := by decide +kernel
theorem dX10_init_168 : decode cX10_init 168 = .ok (.iconst 0, 1) := by decide +kernel
theorem dX10_init_169 : decode cX10_init 169 = .ok (.bastore, 1) := by decide +kernel
theorem dX10_init_170 : decode cX10_init 170 = .ok (.dup, 1) := by decide +kernel
theorem dX10_init_171 : decode cX10_init 171 = .ok (.bipush 18, 2) := by decide +kernel
theorem dX10_init_173 : decode cX10_init 173 = .ok (.iconst 0, 1) := by decide +kernel
theorem dX10_init_174 : decode cX10_init 174 = .ok (.bastore, 1) := by decide +kernel
theorem dX10_init_175 : decode cX10_init 175 = .ok (.dup, 1) := by decide +kernel
theorem dX10_init_176 : decode cX10_init 176 = .ok (.bipush 19, 2) := by decide +kernel
theorem dX10_init_178 : decode cX10_init 178 = .ok (.iconst 0, 1) := by decide +kernel
theorem dX10_init_179 : decode cX10_init 179 = .ok (.bastore, 1) := by decide +kernel
theorem dX10_init_180 : decode cX10_init 180 = .ok (.dup, 1) := by decide +kernel
theorem dX10_init_181 : decode cX10_init 181 = .ok (.bipush 20, 2) := by decide +kernel
theorem dX10_init_183 : decode cX10_init 183 = .ok (.iconst 0, 1) := by decide +kernel
theorem dX10_init_184 : decode cX10_init 184 = .ok (.bastore, 1) := by decide +kernel
theorem dX10_init_185 : decode cX10_init 185 = .ok (.dup, 1) := by decide +kernel
theorem dX10_init_186 : decode cX10_init 186 = .ok (.bipush 21, 2) := by decide +kernel
theorem dX10_init_188 : decode cX10_init 188 = .ok (.bipush 111, 2) := by decide +kernel
theorem dX10_init_190 : decode cX10_init 190 = .ok (.bastore, 1) := by decide +kernel
theorem dX10_init_191 : decode cX10_init 191 = .ok (.dup, 1) := by decide +kernel
theorem dX10_init_192 : decode cX10_init 192 = .ok (.bipush 22, 2) := by decide +kernel
theorem dX10_init_194 : decode cX10_init 194 = .ok (.bipush 97, 2) := by decide +kernel
theorem dX10_init_196 : decode cX10_init 196 = .ok (.bastore, 1) := by decide +kernel
theorem dX10_init_197 : decode cX10_init 197 = .ok (.dup, 1) := by decide +kernel
theorem dX10_init_198 : decode cX10_init 198 = .ok (.bipush 23, 2) := by decide +kernel
theorem dX10_init_200 : decode cX10_init 200 = .ok (.bipush 116, 2) := by decide +kernel
theorem dX10_init_202 : decode cX10_init 202 = .ok (.bastore, 1) := by decide +kernel
theorem dX10_init_203 : decode cX10_init 203 = .ok (.dup, 1) := by decide +kernel
theorem dX10_init_204 : decode cX10_init 204 = .ok (.bipush 24, 2) := by decide +kernel
theorem dX10_init_206 : decode cX10_init 206 = .ok (.bipush 104, 2) := by decide +kernel
theorem dX10_init_208 : decode cX10_init 208 = .ok (.bastore, 1) := by decide +kernel
theorem dX10_init_209 : decode cX10_init 209 = .ok (.dup, 1) := by decide +kernel
theorem dX10_init_210 : decode cX10_init 210 = .ok (.bipush 25, 2) := by decide +kernel
theorem dX10_init_212 : decode cX10_init 212 = .ok (.iconst 0, 1) := by decide +kernel
theorem dX10_init_213 : decode cX10_init 213 = .ok (.bastore, 1) := by decide +kernel
theorem dX10_init_214 : decode cX10_init 214 = .ok (.dup, 1) := by decide +kernel
theorem dX10_init_215 : decode cX10_init 215 = .ok (.bipush 26, 2) := by decide +kernel
theorem dX10_init_217 : decode cX10_init 217 = .ok (.iconst 0, 1) := by decide +kernel
theorem dX10_init_218 : decode cX10_init 218 = .ok (.bastore, 1) := by decide +kernel
theorem dX10_init_219 : decode cX10_init 219 = .ok (.dup, 1) := by decide +kernel
theorem dX10_init_220 : decode cX10_init 220 = .ok (.bipush 27, 2) := by decide +kernel
theorem dX10_init_222 : decode cX10_init 222 = .ok (.iconst 0, 1) := by decide +kernel
theorem dX10_init_223 : decode cX10_init 223 = .ok (.bastore, 1) := by decide +kernel
theorem dX10_init_224 : decode cX10_init 224 = .ok (.dup, 1) := by decide +kernel
theorem dX10_init_225 : decode cX10_init 225 = .ok (.bipush 28, 2) := by decide +kernel
theorem dX10_init_227 : decode cX10_init 227 = .ok (.bipush 100, 2) := by decide +kernel
theorem dX10_init_229 : decode cX10_init 229 = .ok (.bastore, 1) := by decide +kernel
theorem dX10_init_230 : decode cX10_init 230 = .ok (.dup, 1) := by decide +kernel
theorem dX10_init_231 : decode cX10_init 231 = .ok (.bipush 29, 2) := by decide +kernel
theorem dX10_init_233 : decode cX10_init 233 = .ok (.bipush 101, 2) := by decide +kernel
theorem dX10_init_235 : decode cX10_init 235 = .ok (.bastore, 1) := by decide +kernel
theorem dX10_init_236 : decode cX10_init 236 = .ok (.dup, 1) := by decide +kernel
theorem dX10_init_237 : decode cX10_init 237 = .ok (.bipush 30, 2) := by decide +kernel
theorem dX10_init_239 : decode cX10_init 239 = .ok (.bipush 110, 2) := by decide +kernel
theorem dX10_init_241 : decode cX10_init 241 = .ok (.bastore, 1) := by decide +kernel
theorem dX10_init_242 : decode cX10_init 242 = .ok (.dup, 1) := by decide +kernel
theorem dX10_init_243 : decode cX10_init 243 = .ok (.bipush 31, 2) := by decide +kernel
theorem dX10_init_245 : decode cX10_init 245 = .ok (.bipush 105, 2) := by decide +kernel
theorem dX10_init_247 : decode cX10_init 247 = .ok (.bastore, 1) := by decide +kernel
theorem dX10_init_248 : decode cX10_init 248 = .ok (.dup, 1) := by decide +kernel
theorem dX10_init_249 : decode cX10_init 249 = .ok (.bipush 32, 2) := by decide +kernel
theorem dX10_init_251 : decode cX10_init 251 = .ok (.bipush 101, 2) := by decide +kernel
theorem dX10_init_253 : decode cX10_init 253 = .ok (.bastore, 1) := by decide +kernel
theorem dX10_init_254 : decode cX10_init 254 = .ok (.dup, 1) := by decide +kernel
theorem dX10_init_255 : decode cX10_init 255 = .ok (.bipush 33, 2) := by decide +kernel
theorem dX10_init_257 : decode cX10_init 257 = .ok (.bipush 100, 2) := by decide +kernel
theorem dX10_init_259 : decode cX10_init 259 = .ok (.bastore, 1) := by decide +kernel
theorem dX10_init_260 : decode cX10_init 260 = .ok (.dup, 1) := by decide +kernel
theorem dX10_init_261 : decode cX10_init 261 = .ok (.bipush 34, 2) := by decide +kernel
theorem dX10_init_263 : decode cX10_init 263 = .ok (.iconst 0, 1) := by decide +kernel
theorem dX10_init_264 : decode cX10_init 264 = .ok (.bastore, 1) := by decide +kernel
theorem dX10_init_265 : decode cX10_init 265 = .ok (.dup, 1) := by decide +kernel
theorem dX10_init_266 : decode cX10_init 266 = .ok (.bipush 35, 2) := by decide +kernel
theorem dX10_init_268 : decode cX10_init 268 = .ok (.bipush 110, 2) := by decide +kernel
theorem dX10_init_270 : decode cX10_init 270 = .ok (.bastore, 1) := by decide +kernel
theorem dX10_init_271 : decode cX10_init 271 = .ok (.dup, 1) := by decide +kernel
theorem dX10_init_272 : decode cX10_init 272 = .ok (.bipush 36, 2) := by decide +kernel
theorem dX10_init_274 : decode cX10_init 274 = .ok (.bipush 111, 2) := by decide +kernel
theorem dX10_init_276 : decode cX10_init 276 = .ok (.bastore, 1) := by decide +kernel
theorem dX10_init_277 : decode cX10_init 277 = .ok (.dup, 1) := by decide +kernel
theorem dX10_init_278 : decode cX10_init 278 = .ok (.bipush 37, 2) := by decide +kernel
theorem dX10_init_280 : decode cX10_init 280 = .ok (.bipush 116, 2) := by decide +kernel
theorem dX10_init_282 : decode cX10_init 282 = .ok (.bastore, 1) := by decide +kernel
theorem dX10_init_283 : decode cX10_init 283 = .ok (.dup, 1) := by decide +kernel
theorem dX10_init_284 : decode cX10_init 284 = .ok (.bipush 38, 2) := by decide +kernel
theorem dX10_init_286 : decode cX10_init 286 = .ok (.bipush 101, 2) := by decide +kernel
theorem dX10_init_288 : decode cX10_init 288 = .ok (.bastore, 1) := by decide +kernel
theorem dX10_init_289 : decode cX10_init 289 = .ok (.dup, 1) := by decide +kernel
theorem dX10_init_290 : decode cX10_init 290 = .ok (.bipush 39, 2) := by decide +kernel
theorem dX10_init_292 : decode cX10_init 292 = .ok (.iconst 0, 1) := by decide +kernel
theorem dX10_init_293 : decode cX10_init 293 = .ok (.bastore, 1) := by decide +kernel
theorem dX10_init_294 : decode cX10_init 294 = .ok (.dup, 1) := by decide +kernel
theorem dX10_init_295 : decode cX10_init 295 = .ok (.bipush 40, 2) := by decide +kernel
theorem dX10_init_297 : decode cX10_init 297 = .ok (.iconst 0, 1) := by decide +kernel
theorem dX10_init_298 : decode cX10_init 298 = .ok (.bastore, 1) := by decide +kernel
theorem dX10_init_299 : decode cX10_init 299 = .ok (.dup, 1) := by decide +kernel
theorem dX10_init_300 : decode cX10_init 300 = .ok (.bipush 41, 2) := by decide +kernel
theorem dX10_init_302 : decode cX10_init 302 = .ok (.iconst 0, 1) := by decide +kernel
theorem dX10_init_303 : decode cX10_init 303 = .ok (.bastore, 1) := by decide +kernel
theorem dX10_init_304 : decode cX10_init 304 = .ok (.dup, 1) := by decide +kernel
theorem dX10_init_305 : decode cX10_init 305 = .ok (.bipush 42, 2) := by decide +kernel
theorem dX10_init_307 : decode cX10_init 307 = .ok (.bipush 119, 2) := by decide +kernel
theorem dX10_init_309 : decode cX10_init 309 = .ok (.bastore, 1) := by decide +kernel
theorem dX10_init_310 : decode cX10_init 310 = .ok (.dup, 1) := by decide +kernel
theorem dX10_init_311 : decode cX10_init 311 = .ok (.bipush 43, 2) := by decide +kernel
theorem dX10_init_313 : decode cX10_init 313 = .ok (.bipush 105, 2) := by decide +kernel
theorem dX10_init_315 : decode cX10_init 315 = .ok (.bastore, 1) := by decide +kernel
theorem dX10_init_316 : decode cX10_init 316 = .ok (.dup, 1) := by decide +kernel
theorem dX10_init_317 : decode cX10_init 317 = .ok (.bipush 44, 2) := by decide +kernel
theorem dX10_init_319 : decode cX10_init 319 = .ok (.bipush 116, 2) := by decide +kernel
theorem dX10_init_321 : decode cX10_init 321 = .ok (.bastore, 1) := by decide +kernel
theorem dX10_init_322 : decode cX10_init 322 = .ok (.dup, 1) := by decide +kernel
theorem dX10_init_323 : decode cX10_init 323 = .ok (.bipush 45, 2) := by decide +kernel
theorem dX10_init_325 : decode cX10_init 325 = .ok (.bipush 110, 2) := by decide +kernel
theorem dX10_init_327 : decode cX10_init 327 = .ok (.bastore, 1) := by decide +kernel
theorem dX10_init_328 : decode cX10_init 328 = .ok (.dup, 1) := by decide +kernel
theorem dX10_init_329 : decode cX10_init 329 = .ok (.bipush 46, 2) := by decide +kernel
theorem dX10_init_331 : decode cX10_init 331 = .ok (.bipush 101, 2) := by decide +kernel
theorem dX10_init_333 : decode cX10_init 333 = .ok (.bastore, 1) := by decide +kernel
theorem dX10_init_334 : decode cX10_init 334 = .ok (.dup, 1) := by decide +kernel
theorem dX10_init_335 : decode cX10_init 335 = .ok (.bipush 47, 2) := by decide +kernel
theorem dX10_init_337 : decode cX10_init 337 = .ok (.bipush 115, 2) := by decide +kernel
theorem dX10_init_339 : decode cX10_init 339 = .ok (.bastore, 1) := by decide +kernel
theorem dX10_init_340 : decode cX10_init 340 = .ok (.dup, 1) := by decide +kernel
theorem dX10_init_341 : decode cX10_init 341 = .ok (.bipush 48, 2) := by decide +kernel
theorem dX10_init_343 : decode cX10_init 343 = .ok (.bipush 115, 2) := by decide +kernel
theorem dX10_init_345 : decode cX10_init 345 = .ok (.bastore, 1) := by decide +kernel
theorem dX10_init_346 : decode cX10_init 346 = .ok (.dup, 1) := by decide +kernel
theorem dX10_init_347 : decode cX10_init 347 = .ok (.bipush 49, 2) := by decide +kernel
theorem dX10_init_349 : decode cX10_init 349 = .ok (.bipush 111, 2) := by decide +kernel
theorem dX10_init_351 : decode cX10_init 351 = .ok (.bastore, 1) := by decide +kernel
theorem dX10_init_352 : decode cX10_init 352 = .ok (.dup, 1) := by decide +kernel
theorem dX10_init_353 : decode cX10_init 353 = .ok (.bipush 50, 2) := by decide +kernel
theorem dX10_init_355 : decode cX10_init 355 = .ok (.bipush 119, 2) := by decide +kernel
theorem dX10_init_357 : decode cX10_init 357 = .ok (.bastore, 1) := by decide +kernel
theorem dX10_init_358 : decode cX10_init 358 = .ok (.dup, 1) := by decide +kernel
theorem dX10_init_359 : decode cX10_init 359 = .ok (.bipush 51, 2) := by decide +kernel
theorem dX10_init_361 : decode cX10_init 361 = .ok (.bipush 110, 2) := by decide +kernel
theorem dX10_init_363 : decode cX10_init 363 = .ok (.bastore, 1) := by decide +kernel
theorem dX10_init_364 : decode cX10_init 364 = .ok (.dup, 1) := by decide +kernel
theorem dX10_init_365 : decode cX10_init 365 = .ok (.bipush 52, 2) := by decide +kernel
theorem dX10_init_367 : decode cX10_init 367 = .ok (.iconst 0, 1) := by decide +kernel
theorem dX10_init_368 : decode cX10_init 368 = .ok (.bastore, 1) := by decide +kernel
theorem dX10_init_369 : decode cX10_init 369 = .ok (.dup, 1) := by decide +kernel
theorem dX10_init_370 : decode cX10_init 370 = .ok (.bipush 53, 2) := by decide +kernel
theorem dX10_init_372 : decode cX10_init 372 = .ok (.iconst 0, 1) := by decide +kernel
theorem dX10_init_373 : decode cX10_init 373 = .ok (.bastore, 1) := by decide +kernel
theorem dX10_init_374 : decode cX10_init 374 = .ok (.dup, 1) := by decide +kernel
theorem dX10_init_375 : decode cX10_init 375 = .ok (.bipush 54, 2) := by decide +kernel
theorem dX10_init_377 : decode cX10_init 377 = .ok (.iconst 0, 1) := by decide +kernel
theorem dX10_init_378 : decode cX10_init 378 = .ok (.bastore, 1) := by decide +kernel
theorem dX10_init_379 : decode cX10_init 379 = .ok (.dup, 1) := by decide +kernel
theorem dX10_init_380 : decode cX10_init 380 = .ok (.bipush 55, 2) := by decide +kernel
theorem dX10_init_382 : decode cX10_init 382 = .ok (.iconst 0, 1) := by decide +kernel
theorem dX10_init_383 : decode cX10_init 383 = .ok (.bastore, 1) := by decide +kernel
theorem dX10_init_384 : decode cX10_init 384 = .ok (.dup, 1) := by decide +kernel
theorem dX10_init_385 : decode cX10_init 385 = .ok (.bipush 56, 2) := by decide +kernel
theorem dX10_init_387 : decode cX10_init 387 = .ok (.bipush 111, 2) := by decide +kernel
theorem dX10_init_389 : decode cX10_init 389 = .ok (.bastore, 1) := by decide +kernel
theorem dX10_init_390 : decode cX10_init 390 = .ok (.dup, 1) := by decide +kernel
theorem dX10_init_391 : decode cX10_init 391 = .ok (.bipush 57, 2) := by decide +kernel
theorem dX10_init_393 : decode cX10_init 393 = .ok (.bipush 116, 2) := by decide +kernel
theorem dX10_init_395 : decode cX10_init 395 = .ok (.bastore, 1) := by decide +kernel
theorem dX10_init_396 : decode cX10_init 396 = .ok (.dup, 1) := by decide +kernel
theorem dX10_init_397 : decode cX10_init 397 = .ok (.bipush 58, 2) := by decide +kernel
theorem dX10_init_399 : decode cX10_init 399 = .ok (.bipush 104, 2) := by decide +kernel
theorem dX10_init_401 : decode cX10_init 401 = .ok (.bastore, 1) := by decide +kernel
theorem dX10_init_402 : decode cX10_init 402 = .ok (.dup, 1) := by decide +kernel
theorem dX10_init_403 : decode cX10_init 403 = .ok (.bipush 59, 2) := by decide +kernel
theorem dX10_init_405 : decode cX10_init 405 = .ok (.bipush 101, 2) := by decide +kernel
theorem dX10_init_407 : decode cX10_init 407 = .ok (.bastore, 1) := by decide +kernel
theorem dX10_init_408 : decode cX10_init 408 = .ok (.dup, 1) := by decide +kernel
theorem dX10_init_409 : decode cX10_init 409 = .ok (.bipush 60, 2) := by decide +kernel
theorem dX10_init_411 : decode cX10_init 411 = .ok (.bipush 114, 2) := by decide +kernel
theorem dX10_init_413 : decode cX10_init 413 = .ok (.bastore, 1) := by decide +kernel
theorem dX10_init_414 : decode cX10_init 414 = .ok (.dup, 1) := by decide +kernel
theorem dX10_init_415 : decode cX10_init 415 = .ok (.bipush 61, 2) := by decide +kernel
theorem dX10_init_417 : decode cX10_init 417 = .ok (.iconst 0, 1) := by decide +kernel
theorem dX10_init_418 : decode cX10_init 418 = .ok (.bastore, 1) := by decide +kernel
theorem dX10_init_419 : decode cX10_init 419 = .ok (.dup, 1) := by decide +kernel
theorem dX10_init_420 : decode cX10_init 420 = .ok (.bipush 62, 2) := by decide +kernel
theorem dX10_init_422 : decode cX10_init 422 = .ok (.iconst 0, 1) := by decide +kernel
theorem dX10_init_423 : decode cX10_init 423 = .ok (.bastore, 1) := by decide +kernel
theorem dX10_init_424 : decode cX10_init 424 = .ok (.dup, 1) := by decide +kernel
theorem dX10_init_425 : decode cX10_init 425 = .ok (.bipush 63, 2) := by decide +kernel
theorem dX10_init_427 : decode cX10_init 427 = .ok (.bipush 97, 2) := by decide +kernel
theorem dX10_init_429 : decode cX10_init 429 = .ok (.bastore, 1) := by decide +kernel
theorem dX10_init_430 : decode cX10_init 430 = .ok (.dup, 1) := by decide +kernel
theorem dX10_init_431 : decode cX10_init 431 = .ok (.bipush 64, 2) := by decide +kernel
theorem dX10_init_433 : decode cX10_init 433 = .ok (.bipush 108, 2) := by decide +kernel
theorem dX10_init_435 : decode cX10_init 435 = .ok (.bastore, 1) := by decide +kernel
theorem dX10_init_436 : decode cX10_init 436 = .ok (.dup, 1) := by decide +kernel
theorem dX10_init_437 : decode cX10_init 437 = .ok (.bipush 65, 2) := by decide +kernel
theorem dX10_init_439 : decode cX10_init 439 = .ok (.bipush 105, 2) := by decide +kernel
theorem dX10_init_441 : decode cX10_init 441 = .ok (.bastore, 1) := by decide +kernel
theorem dX10_init_442 : decode cX10_init 442 = .ok (.dup, 1) := by decide +kernel
theorem dX10_init_443 : decode cX10_init 443 = .ok (.bipush 66, 2) := by decide +kernel
theorem dX10_init_445 : decode cX10_init 445 = .ok (.bipush 107, 2) := by decide +kernel
theorem dX10_init_447 : decode cX10_init 447 = .ok (.bastore, 1) := by decide +kernel
theorem dX10_init_448 : decode cX10_init 448 = .ok (.dup, 1) := by decide +kernel
theorem dX10_init_449 : decode cX10_init 449 = .ok (.bipush 67, 2) := by decide +kernel
theorem dX10_init_451 : decode cX10_init 451 = .ok (.bipush 101, 2) := by decide +kernel
theorem dX10_init_453 : decode cX10_init 453 = .ok (.bastore, 1) := by decide +kernel
theorem dX10_init_454 : decode cX10_init 454 = .ok (.dup, 1) := by decide +kernel
theorem dX10_init_455 : decode cX10_init 455 = .ok (.bipush 68, 2) := by decide +kernel
theorem dX10_init_457 : decode cX10_init 457 = .ok (.iconst 0, 1) := by decide +kernel
theorem dX10_init_458 : decode cX10_init 458 = .ok (.bastore, 1) := by decide +kernel
theorem dX10_init_459 : decode cX10_init 459 = .ok (.dup, 1) := by decide +kernel
theorem dX10_init_460 : decode cX10_init 460 = .ok (.bipush 69, 2) := by decide +kernel
theorem dX10_init_462 : decode cX10_init 462 = .ok (.iconst 0, 1) := by decide +kernel
theorem dX10_init_463 : decode cX10_init 463 = .ok (.bastore, 1) := by decide +kernel
theorem dX10_init_464 : decode cX10_init 464 = .ok (.dup, 1) := by decide +kernel
theorem dX10_init_465 : decode cX10_init 465 = .ok (.bipush 70, 2) := by decide +kernel
theorem dX10_init_467 : decode cX10_init 467 = .ok (.bipush 99, 2) := by decide +kernel
theorem dX10_init_469 : decode cX10_init 469 = .ok (.bastore, 1) := by decide +kernel
theorem dX10_init_470 : decode cX10_init 470 = .ok (.dup, 1) := by decide +kernel
theorem dX10_init_471 : decode cX10_init 471 = .ok (.bipush 71, 2) := by decide +kernel
theorem dX10_init_473 : decode cX10_init 473 = .ok (.bipush 108, 2) := by decide +kernel
theorem dX10_init_475 : decode cX10_init 475 = .ok (.bastore, 1) := by decide +kernel
theorem dX10_init_476 : decode cX10_init 476 = .ok (.dup, 1) := by decide +kernel
theorem dX10_init_477 : decode cX10_init 477 = .ok (.bipush 72, 2) := by decide +kernel
theorem dX10_init_479 : decode cX10_init 479 = .ok (.bipush 97, 2) := by decide +kernel
theorem dX10_init_481 : decode cX10_init 481 = .ok (.bastore, 1) := by decide +kernel
theorem dX10_init_482 : decode cX10_init 482 = .ok (.dup, 1) := by decide +kernel
theorem dX10_init_483 : decode cX10_init 483 = .ok (.bipush 73, 2) := by decide +kernel
theorem dX10_init_485 : decode cX10_init 485 = .ok (.bipush 105, 2) := by decide +kernel
theorem dX10_init_487 : decode cX10_init 487 = .ok (.bastore, 1) := by decide +kernel
theorem dX10_init_488 : decode cX10_init 488 = .ok (.dup, 1) := by decide +kernel
theorem dX10_init_489 : decode cX10_init 489 = .ok (.bipush 74, 2) := by decide +kernel
theorem dX10_init_491 : decode cX10_init 491 = .ok (.bipush 109, 2) := by decide +kernel
theorem dX10_init_493 : decode cX10_init 493 = .ok (.bastore, 1) := by decide +kernel
theorem dX10_init_494 : decode cX10_init 494 = .ok (.dup, 1) := by decide +kernel
theorem dX10_init_495 : decode cX10_init 495 = .ok (.bipush 75, 2) := by decide +kernel
theorem dX10_init_497 : decode cX10_init 497 = .ok (.bipush 101, 2) := by decide +kernel
theorem dX10_init_499 : decode cX10_init 499 = .ok (.bastore, 1) := by decide +kernel
theorem dX10_init_500 : decode cX10_init 500 = .ok (.dup, 1) := by decide +kernel
theorem dX10_init_501 : decode cX10_init 501 = .ok (.bipush 76, 2) := by decide +kernel
theorem dX10_init_503 : decode cX10_init 503 = .ok (.bipush 100, 2) := by decide +kernel
theorem dX10_init_505 : decode cX10_init 505 = .ok (.bastore, 1) := by decide +kernel
theorem dX10_init_506 : decode cX10_init 506 = .ok (.dup, 1) := by decide +kernel
theorem dX10_init_507 : decode cX10_init 507 = .ok (.bipush 77, 2) := by decide +kernel
theorem dX10_init_509 : decode cX10_init 509 = .ok (.bipush 109, 2) := by decide +kernel
theorem dX10_init_511 : decode cX10_init 511 = .ok (.bastore, 1) := by decide +kernel
theorem dX10_init_512 : decode cX10_init 512 = .ok (.dup, 1) := by decide +kernel
theorem dX10_init_513 : decode cX10_init 513 = .ok (.bipush 78, 2) := by decide +kernel
theorem dX10_init_515 : decode cX10_init 515 = .ok (.bipush 111, 2) := by decide +kernel
theorem dX10_init_517 : decode cX10_init 517 = .ok (.bastore, 1) := by decide +kernel
theorem dX10_init_518 : decode cX10_init 518 = .ok (.dup, 1) := by decide +kernel
theorem dX10_init_519 : decode cX10_init 519 = .ok (.bipush 79, 2) := by decide +kernel
theorem dX10_init_521 : decode cX10_init 521 = .ok (.bipush 115, 2) := by decide +kernel
theorem dX10_init_523 : decode cX10_init 523 = .ok (.bastore, 1) := by decide +kernel
theorem dX10_init_524 : decode cX10_init 524 = .ok (.dup, 1) := by decide +kernel
theorem dX10_init_525 : decode cX10_init 525 = .ok (.bipush 80, 2) := by decide +kernel
theorem dX10_init_527 : decode cX10_init 527 = .ok (.bipush 116, 2) := by decide +kernel
theorem dX10_init_529 : decode cX10_init 529 = .ok (.bastore, 1) := by decide +kernel
theorem dX10_init_530 : decode cX10_init 530 = .ok (.dup, 1) := by decide +kernel
theorem dX10_init_531 : decode cX10_init 531 = .ok (.bipush 81, 2) := by decide +kernel
theorem dX10_init_533 : decode cX10_init 533 = .ok (.iconst 0, 1) := by decide +kernel
theorem dX10_init_534 : decode cX10_init 534 = .ok (.bastore, 1) := by decide +kernel
theorem dX10_init_535 : decode cX10_init 535 = .ok (.dup, 1) := by decide +kernel
theorem dX10_init_536 : decode cX10_init 536 = .ok (.bipush 82, 2) := by decide +kernel
theorem dX10_init_538 : decode cX10_init 538 = .ok (.iconst 0, 1) := by decide +kernel
theorem dX10_init_539 : decode cX10_init 539 = .ok (.bastore, 1) := by decide +kernel
theorem dX10_init_540 : decode cX10_init 540 = .ok (.dup, 1) := by decide +kernel
theorem dX10_init_541 : decode cX10_init 541 = .ok (.bipush 83, 2) := by decide +kernel
theorem dX10_init_543 : decode cX10_init 543 = .ok (.iconst 0, 1) := by decide +kernel
theorem dX10_init_544 : decode cX10_init 544 = .ok (.bastore, 1) := by decide +kernel
theorem dX10_init_545 : decode cX10_init 545 = .ok (.dup, 1) := by decide +kernel
theorem dX10_init_546 : decode cX10_init 546 = .ok (.bipush 84, 2) := by decide +kernel
theorem dX10_init_548 : decode cX10_init 548 = .ok (.bipush 115, 2) := by decide +kernel
theorem dX10_init_550 : decode cX10_init 550 = .ok (.bastore, 1) := by decide +kernel
theorem dX10_init_551 : decode cX10_init 551 = .ok (.dup, 1) := by decide +kernel
theorem dX10_init_552 : decode cX10_init 552 = .ok (.bipush 85, 2) := by decide +kernel
theorem dX10_init_554 : decode cX10_init 554 = .ok (.bipush 112, 2) := by decide +kernel
theorem dX10_init_556 : decode cX10_init 556 = .ok (.bastore, 1) := by decide +kernel
theorem dX10_init_557 : decode cX10_init 557 = .ok (.dup, 1) := by decide +kernel
theorem dX10_init_558 : decode cX10_init 558 = .ok (.bipush 86, 2) := by decide +kernel
theorem dX10_init_560 : decode cX10_init 560 = .ok (.bipush 108, 2) := by decide +kernel
theorem dX10_init_562 : decode cX10_init 562 = .ok (.bastore, 1) := by decide +kernel
theorem dX10_init_563 : decode cX10_init 563 = .ok (.dup, 1) := by decide +kernel
theorem dX10_init_564 : decode cX10_init 564 = .ok (.bipush 87, 2) := by decide +kernel
theorem dX10_init_566 : decode cX10_init 566 = .ok (.bipush 105, 2) := by decide +kernel
theorem dX10_init_568 : decode cX10_init 568 = .ok (.bastore, 1) := by decide +kernel
theorem dX10_init_569 : decode cX10_init 569 = .ok (.dup, 1) := by decide +kernel
theorem dX10_init_570 : decode cX10_init 570 = .ok (.bipush 88, 2) := by decide +kernel
theorem dX10_init_572 : decode cX10_init 572 = .ok (.bipush 116, 2) := by decide +kernel
theorem dX10_init_574 : decode cX10_init 574 = .ok (.bastore, 1) := by decide +kernel
theorem dX10_init_575 : decode cX10_init 575 = .ok (.dup, 1) := by decide +kernel
theorem dX10_init_576 : decode cX10_init 576 = .ok (.bipush 89, 2) := by decide +kernel
theorem dX10_init_578 : decode cX10_init 578 = .ok (.iconst 0, 1) := by decide +kernel
theorem dX10_init_579 : decode cX10_init 579 = .ok (.bastore, 1) := by decide +kernel
theorem dX10_init_580 : decode cX10_init 580 = .ok (.dup, 1) := by decide +kernel
theorem dX10_init_581 : decode cX10_init 581 = .ok (.bipush 90, 2) := by decide +kernel
theorem dX10_init_583 : decode cX10_init 583 = .ok (.iconst 0, 1) := by decide +kernel
theorem dX10_init_584 : decode cX10_init 584 = .ok (.bastore, 1) := by decide +kernel
theorem dX10_init_585 : decode cX10_init 585 = .ok (.dup, 1) := by decide +kernel
theorem dX10_init_586 : decode cX10_init 586 = .ok (.bipush 91, 2) := by decide +kernel
theorem dX10_init_588 : decode cX10_init 588 = .ok (.bipush 119, 2) := by decide +kernel
theorem dX10_init_590 : decode cX10_init 590 = .ok (.bastore, 1) := by decide +kernel
theorem dX10_init_591 : decode cX10_init 591 = .ok (.dup, 1) := by decide +kernel
theorem dX10_init_592 : decode cX10_init 592 = .ok (.bipush 92, 2) := by decide +kernel
theorem dX10_init_594 : decode cX10_init 594 = .ok (.bipush 101, 2) := by decide +kernel
theorem dX10_init_596 : decode cX10_init 596 = .ok (.bastore, 1) := by decide +kernel
theorem dX10_init_597 : decode cX10_init 597 = .ok (.dup, 1) := by decide +kernel
theorem dX10_init_598 : decode cX10_init 598 = .ok (.bipush 93, 2) := by decide +kernel
theorem dX10_init_600 : decode cX10_init 600 = .ok (.bipush 101, 2) := by decide +kernel
theorem dX10_init_602 : decode cX10_init 602 = .ok (.bastore, 1) := by decide +kernel
theorem dX10_init_603 : decode cX10_init 603 = .ok (.dup, 1) := by decide +kernel
theorem dX10_init_604 : decode cX10_init 604 = .ok (.bipush 94, 2) := by decide +kernel
theorem dX10_init_606 : decode cX10_init 606 = .ok (.bipush 107, 2) := by decide +kernel
theorem dX10_init_608 : decode cX10_init 608 = .ok (.bastore, 1) := by decide +kernel
theorem dX10_init_609 : decode cX10_init 609 = .ok (.dup, 1) := by decide +kernel
theorem dX10_init_610 : decode cX10_init 610 = .ok (.bipush 95, 2) := by decide +kernel
theorem dX10_init_612 : decode cX10_init 612 = .ok (.iconst 0, 1) := by decide +kernel
theorem dX10_init_613 : decode cX10_init 613 = .ok (.bastore, 1) := by decide +kernel
theorem dX10_init_614 : decode cX10_init 614 = .ok (.dup, 1) := by decide +kernel
theorem dX10_init_615 : decode cX10_init 615 = .ok (.bipush 96, 2) := by decide +kernel
theorem dX10_init_617 : decode cX10_init 617 = .ok (.iconst 0, 1) := by decide +kernel
theorem dX10_init_618 : decode cX10_init 618 = .ok (.bastore, 1) := by decide +kernel
theorem dX10_init_619 : decode cX10_init 619 = .ok (.dup, 1) := by decide +kernel
theorem dX10_init_620 : decode cX10_init 620 = .ok (.bipush 97, 2) := by decide +kernel
theorem dX10_init_622 : decode cX10_init 622 = .ok (.iconst 0, 1) := by decide +kernel
theorem dX10_init_623 : decode cX10_init 623 = .ok (.bastore, 1) := by decide +kernel
theorem dX10_init_624 : decode cX10_init 624 = .ok (.dup, 1) := by decide +kernel
theorem dX10_init_625 : decode cX10_init 625 = .ok (.bipush 98, 2) := by decide +kernel
theorem dX10_init_627 : decode cX10_init 627 = .ok (.bipush 107, 2) := by decide +kernel
theorem dX10_init_629 : decode cX10_init 629 = .ok (.bastore, 1) := by decide +kernel
theorem dX10_init_630 : decode cX10_init 630 = .ok (.dup, 1) := by decide +kernel
theorem dX10_init_631 : decode cX10_init 631 = .ok (.bipush 99, 2) := by decide +kernel
theorem dX10_init_633 : decode cX10_init 633 = .ok (.bipush 101, 2) := by decide +kernel
theorem dX10_init_635 : decode cX10_init 635 = .ok (.bastore, 1) := by decide +kernel
theorem dX10_init_636 : decode cX10_init 636 = .ok (.dup, 1) := by decide +kernel
theorem dX10_init_637 : decode cX10_init 637 = .ok (.bipush 100, 2) := by decide +kernel
theorem dX10_init_639 : decode cX10_init 639 = .ok (.bipush 101, 2) := by decide +kernel
theorem dX10_init_641 : decode cX10_init 641 = .ok (.bastore, 1) := by decide +kernel
theorem dX10_init_642 : decode cX10_init 642 = .ok (.dup, 1) := by decide +kernel
theorem dX10_init_643 : decode cX10_init 643 = .ok (.bipush 101, 2) := by decide +kernel
theorem dX10_init_645 : decode cX10_init 645 = .ok (.bipush 112, 2) := by decide +kernel
theorem dX10_init_647 : decode cX10_init 647 = .ok (.bastore, 1) := by decide +kernel
theorem dX10_init_648 : decode cX10_init 648 = .ok (.dup, 1) := by decide +kernel
theorem dX10_init_649 : decode cX10_init 649 = .ok (.bipush 102, 2) := by decide +kernel
theorem dX10_init_651 : decode cX10_init 651 = .ok (.iconst 0, 1) := by decide +kernel
theorem dX10_init_652 : decode cX10_init 652 = .ok (.bastore, 1) := by decide +kernel
theorem dX10_init_653 : decode cX10_init 653 = .ok (.dup, 1) := by decide +kernel
theorem dX10_init_654 : decode cX10_init 654 = .ok (.bipush 103, 2) := by decide +kernel
theorem dX10_init_656 : decode cX10_init 656 = .ok (.iconst 0, 1) := by decide +kernel
theorem dX10_init_657 : decode cX10_init 657 = .ok (.bastore, 1) := by decide +kernel
theorem dX10_init_658 : decode cX10_init 658 = .ok (.dup, 1) := by decide +kernel
theorem dX10_init_659 : decode cX10_init 659 = .ok (.bipush 104, 2) := by decide +kernel
theorem dX10_init_661 : decode cX10_init 661 = .ok (.iconst 0, 1) := by decide +kernel
theorem dX10_init_662 : decode cX10_init 662 = .ok (.bastore, 1) := by decide +kernel
theorem dX10_init_663 : decode cX10_init 663 = .ok (.dup, 1) := by decide +kernel
theorem dX10_init_664 : decode cX10_init 664 = .ok (.bipush 105, 2) := by decide +kernel
theorem dX10_init_666 : decode cX10_init 666 = .ok (.bipush 108, 2) := by decide +kernel
theorem dX10_init_668 : decode cX10_init 668 = .ok (.bastore, 1) := by decide +kernel
theorem dX10_init_669 : decode cX10_init 669 = .ok (.dup, 1) := by decide +kernel
theorem dX10_init_670 : decode cX10_init 670 = .ok (.bipush 106, 2) := by decide +kernel
theorem dX10_init_672 : decode cX10_init 672 = .ok (.bipush 97, 2) := by decide +kernel
theorem dX10_init_674 : decode cX10_init 674 = .ok (.bastore, 1) := by decide +kernel
theorem dX10_init_675 : decode cX10_init 675 = .ok (.dup, 1) := by decide +kernel
theorem dX10_init_676 : decode cX10_init 676 = .ok (.bipush 107, 2) := by decide +kernel
theorem dX10_init_678 : decode cX10_init 678 = .ok (.bipush 116, 2) := by decide +kernel
theorem dX10_init_680 : decode cX10_init 680 = .ok (.bastore, 1) := by decide +kernel
theorem dX10_init_681 : decode cX10_init 681 = .ok (.dup, 1) := by decide +kernel
theorem dX10_init_682 : decode cX10_init 682 = .ok (.bipush 108, 2) := by decide +kernel
theorem dX10_init_684 : decode cX10_init 684 = .ok (.bipush 101, 2) := by decide +kernel
theorem dX10_init_686 : decode cX10_init 686 = .ok (.bastore, 1) := by decide +kernel
theorem dX10_init_687 : decode cX10_init 687 = .ok (.dup, 1) := by decide +kernel
theorem dX10_init_688 : decode cX10_init 688 = .ok (.bipush 109, 2) := by decide +kernel
theorem dX10_init_690 : decode cX10_init 690 = .ok (.iconst 0, 1) := by decide +kernel
theorem dX10_init_691 : decode cX10_init 691 = .ok (.bastore, 1) := by decide +kernel
theorem dX10_init_692 : decode cX10_init 692 = .ok (.dup, 1) := by decide +kernel
theorem dX10_init_693 : decode cX10_init 693 = .ok (.bipush 110, 2) := by decide +kernel
theorem dX10_init_695 : decode cX10_init 695 = .ok (.iconst 0, 1) := by decide +kernel
theorem dX10_init_696 : decode cX10_init 696 = .ok (.bastore, 1) := by decide +kernel
theorem dX10_init_697 : decode cX10_init 697 = .ok (.dup, 1) := by decide +kernel
theorem dX10_init_698 : decode cX10_init 698 = .ok (.bipush 111, 2) := by decide +kernel
theorem dX10_init_700 : decode cX10_init 700 = .ok (.iconst 0, 1) := by decide +kernel
theorem dX10_init_701 : decode cX10_init 701 = .ok (.bastore, 1) := by decide +kernel
theorem dX10_init_702 : decode cX10_init 702 = .ok (.dup, 1) := by decide +kernel
theorem dX10_init_703 : decode cX10_init 703 = .ok (.bipush 112, 2) := by decide +kernel
theorem dX10_init_705 : decode cX10_init 705 = .ok (.bipush 103, 2) := by decide +kernel
theorem dX10_init_707 : decode cX10_init 707 = .ok (.bastore, 1) := by decide +kernel
theorem dX10_init_708 : decode cX10_init 708 = .ok (.dup, 1) := by decide +kernel
theorem dX10_init_709 : decode cX10_init 709 = .ok (.bipush 113, 2) := by decide +kernel
theorem dX10_init_711 : decode cX10_init 711 = .ok (.bipush 97, 2) := by decide +kernel
theorem dX10_init_713 : decode cX10_init 713 = .ok (.bastore, 1) := by decide +kernel
theorem dX10_init_714 : decode cX10_init 714 = .ok (.dup, 1) := by decide +kernel
theorem dX10_init_715 : decode cX10_init 715 = .ok (.bipush 114, 2) := by decide +kernel
theorem dX10_init_717 : decode cX10_init 717 = .ok (.bipush 111, 2) := by decide +kernel
theorem dX10_init_719 : decode cX10_init 719 = .ok (.bastore, 1) := by decide +kernel
theorem dX10_init_720 : decode cX10_init 720 = .ok (.dup, 1) := by decide +kernel
theorem dX10_init_721 : decode cX10_init 721 = .ok (.bipush 115, 2) := by decide +kernel
theorem dX10_init_723 : decode cX10_init 723 = .ok (.bipush 108, 2) := by decide +kernel
theorem dX10_init_725 : decode cX10_init 725 = .ok (.bastore, 1) := by decide +kernel
theorem dX10_init_726 : decode cX10_init 726 = .ok (.dup, 1) := by decide +kernel
theorem dX10_init_727 : decode cX10_init 727 = .ok (.bipush 116, 2) := by decide +kernel
theorem dX10_init_729 : decode cX10_init 729 = .ok (.iconst 0, 1) := by decide +kernel
theorem dX10_init_730 : decode cX10_init 730 = .ok (.bastore, 1) := by decide +kernel
theorem dX10_init_731 : decode cX10_init 731 = .ok (.dup, 1) := by decide +kernel
theorem dX10_init_732 : decode cX10_init 732 = .ok (.bipush 117, 2) := by decide +kernel
theorem dX10_init_734 : decode cX10_init 734 = .ok (.iconst 0, 1) := by decide +kernel
theorem dX10_init_735 : decode cX10_init 735 = .ok (.bastore, 1) := by decide +kernel
theorem dX10_init_736 : decode cX10_init 736 = .ok (.dup, 1) := by decide +kernel
theorem dX10_init_737 : decode cX10_init 737 = .ok (.bipush 118, 2) := by decide +kernel
theorem dX10_init_739 : decode cX10_init 739 = .ok (.iconst 0, 1) := by decide +kernel
theorem dX10_init_740 : decode cX10_init 740 = .ok (.bastore, 1) := by decide +kernel
theorem dX10_init_741 : decode cX10_init 741 = .ok (.dup, 1) := by decide +kernel
theorem dX10_init_742 : decode cX10_init 742 = .ok (.bipush 119, 2) := by decide +kernel
theorem dX10_init_744 : decode cX10_init 744 = .ok (.bipush 108, 2) := by decide +kernel
theorem dX10_init_746 : decode cX10_init 746 = .ok (.bastore, 1) := by decide +kernel
theorem dX10_init_747 : decode cX10_init 747 = .ok (.dup, 1) := by decide +kernel
theorem dX10_init_748 : decode cX10_init 748 = .ok (.bipush 120, 2) := by decide +kernel
theorem dX10_init_750 : decode cX10_init 750 = .ok (.bipush 111, 2) := by decide +kernel
theorem dX10_init_752 : decode cX10_init 752 = .ok (.bastore, 1) := by decide +kernel
theorem dX10_init_753 : decode cX10_init 753 = .ok (.dup, 1) := by decide +kernel
theorem dX10_init_754 : decode cX10_init 754 = .ok (.bipush 121, 2) := by decide +kernel
theorem dX10_init_756 : decode cX10_init 756 = .ok (.bipush 110, 2) := by decide +kernel
theorem dX10_init_758 : decode cX10_init 758 = .ok (.bastore, 1) := by decide +kernel
theorem dX10_init_759 : decode cX10_init 759 = .ok (.dup, 1) := by decide +kernel
theorem dX10_init_760 : decode cX10_init 760 = .ok (.bipush 122, 2) := by decide +kernel
theorem dX10_init_762 : decode cX10_init 762 = .ok (.bipush 103, 2) := by decide +kernel
theorem dX10_init_764 : decode cX10_init 764 = .ok (.bastore, 1) := by decide +kernel
theorem dX10_init_765 : decode cX10_init 765 = .ok (.dup, 1) := by decide +kernel
theorem dX10_init_766 : decode cX10_init 766 = .ok (.bipush 123, 2) := by decide +kernel
theorem dX10_init_768 : decode cX10_init 768 = .ok (.bipush 101, 2) := by decide +kernel
theorem dX10_init_770 : decode cX10_init 770 = .ok (.bastore, 1) := by decide +kernel
theorem dX10_init_771 : decode cX10_init 771 = .ok (.dup, 1) := by decide +kernel
theorem dX10_init_772 : decode cX10_init 772 = .ok (.bipush 124, 2) := by decide +kernel
theorem dX10_init_774 : decode cX10_init 774 = .ok (.bipush 115, 2) := by decide +kernel
theorem dX10_init_776 : decode cX10_init 776 = .ok (.bastore, 1) := by decide +kernel
theorem dX10_init_777 : decode cX10_init 777 = .ok (.dup, 1) := by decide +kernel
theorem dX10_init_778 : decode cX10_init 778 = .ok (.bipush 125, 2) := by decide +kernel
theorem dX10_init_780 : decode cX10_init 780 = .ok (.bipush 116, 2) := by decide +kernel
theorem dX10_init_782 : decode cX10_init 782 = .ok (.bastore, 1) := by decide +kernel
theorem dX10_init_783 : decode cX10_init 783 = .ok (.dup, 1) := by decide +kernel
theorem dX10_init_784 : decode cX10_init 784 = .ok (.bipush 126, 2) := by decide +kernel
theorem dX10_init_786 : decode cX10_init 786 = .ok (.bipush 97, 2) := by decide +kernel
theorem dX10_init_788 : decode cX10_init 788 = .ok (.bastore, 1) := by decide +kernel
theorem dX10_init_789 : decode cX10_init 789 = .ok (.dup, 1) := by decide +kernel
theorem dX10_init_790 : decode cX10_init 790 = .ok (.bipush 127, 2) := by decide +kernel
theorem dX10_init_792 : decode cX10_init 792 = .ok (.bipush 103, 2) := by decide +kernel
theorem dX10_init_794 : decode cX10_init 794 = .ok (.bastore, 1) := by decide +kernel
theorem dX10_init_795 : decode cX10_init 795 = .ok (.dup, 1) := by decide +kernel
theorem dX10_init_796 : decode cX10_init 796 = .ok (.sipush 128, 3) := by decide +kernel
theorem dX10_init_799 : decode cX10_init 799 = .ok (.bipush 101, 2) := by decide +kernel
theorem dX10_init_801 : decode cX10_init 801 = .ok (.bastore, 1) := by decide +kernel
theorem dX10_init_802 : decode cX10_init 802 = .ok (.dup, 1) := by decide +kernel
theorem dX10_init_803 : decode cX10_init 803 = .ok (.sipush 129, 3) := by decide +kernel
theorem dX10_init_806 : decode cX10_init 806 = .ok (.iconst 0, 1) := by decide +kernel
theorem dX10_init_807 : decode cX10_init 807 = .ok (.bastore, 1) := by decide +kernel
theorem dX10_init_808 : decode cX10_init 808 = .ok (.dup, 1) := by decide +kernel
theorem dX10_init_809 : decode cX10_init 809 = .ok (.sipush 130, 3) := by decide +kernel
theorem dX10_init_812 : decode cX10_init 812 = .ok (.iconst 0, 1) := by decide +kernel
theorem dX10_init_813 : decode cX10_init 813 = .ok (.bastore, 1) := by decide +kernel
theorem dX10_init_814 : decode cX10_init 814 = .ok (.dup, 1) := by decide +kernel
theorem dX10_init_815 : decode cX10_init 815 = .ok (.sipush 131, 3) := by decide +kernel
theorem dX10_init_818 : decode cX10_init 818 = .ok (.iconst 0, 1) := by decide +kernel
theorem dX10_init_819 : decode cX10_init 819 = .ok (.bastore, 1) := by decide +kernel
theorem dX10_init_820 : decode cX10_init 820 = .ok (.dup, 1) := by decide +kernel
theorem dX10_init_821 : decode cX10_init 821 = .ok (.sipush 132, 3) := by decide +kernel
theorem dX10_init_824 : decode cX10_init 824 = .ok (.iconst 0, 1) := by decide +kernel
theorem dX10_init_825 : decode cX10_init 825 = .ok (.bastore, 1) := by decide +kernel
theorem dX10_init_826 : decode cX10_init 826 = .ok (.dup, 1) := by decide +kernel
theorem dX10_init_827 : decode cX10_init 827 = .ok (.sipush 133, 3) := by decide +kernel
theorem dX10_init_830 : decode cX10_init 830 = .ok (.bipush 99, 2) := by decide +kernel
theorem dX10_init_832 : decode cX10_init 832 = .ok (.bastore, 1) := by decide +kernel
theorem dX10_init_833 : decode cX10_init 833 = .ok (.dup, 1) := by decide +kernel
theorem dX10_init_834 : decode cX10_init 834 = .ok (.sipush 134, 3) := by decide +kernel
theorem dX10_init_837 : decode cX10_init 837 = .ok (.bipush 111, 2) := by decide +kernel
theorem dX10_init_839 : decode cX10_init 839 = .ok (.bastore, 1) := by decide +kernel
theorem dX10_init_840 : decode cX10_init 840 = .ok (.dup, 1) := by decide +kernel
theorem dX10_init_841 : decode cX10_init 841 = .ok (.sipush 135, 3) := by decide +kernel
theorem dX10_init_844 : decode cX10_init 844 = .ok (.bipush 115, 2) := by decide +kernel
theorem dX10_init_846 : decode cX10_init 846 = .ok (.bastore, 1) := by decide +kernel
theorem dX10_init_847 : decode cX10_init 847 = .ok (.dup, 1) := by decide +kernel
theorem dX10_init_848 : decode cX10_init 848 = .ok (.sipush 136, 3) := by decide +kernel
theorem dX10_init_851 : decode cX10_init 851 = .ok (.bipush 116, 2) := by decide +kernel
theorem dX10_init_853 : decode cX10_init 853 = .ok (.bastore, 1) := by decide +kernel
theorem dX10_init_854 : decode cX10_init 854 = .ok (.dup, 1) := by decide +kernel
theorem dX10_init_855 : decode cX10_init 855 = .ok (.sipush 137, 3) := by decide +kernel
theorem dX10_init_858 : decode cX10_init 858 = .ok (.iconst 0, 1) := by decide +kernel
theorem dX10_init_859 : decode cX10_init 859 = .ok (.bastore, 1) := by decide +kernel
theorem dX10_init_860 : decode cX10_init 860 = .ok (.dup, 1) := by decide +kernel
theorem dX10_init_861 : decode cX10_init 861 = .ok (.sipush 138, 3) := by decide +kernel
theorem dX10_init_864 : decode cX10_init 864 = .ok (.iconst 0, 1) := by decide +kernel
theorem dX10_init_865 : decode cX10_init 865 = .ok (.bastore, 1) := by decide +kernel
theorem dX10_init_866 : decode cX10_init 866 = .ok (.dup, 1) := by decide +kernel
theorem dX10_init_867 : decode cX10_init 867 = .ok (.sipush 139, 3) := by decide +kernel
theorem dX10_init_870 : decode cX10_init 870 = .ok (.iconst 0, 1) := by decide +kernel
theorem dX10_init_871 : decode cX10_init 871 = .ok (.bastore, 1) := by decide +kernel
theorem dX10_init_872 : decode cX10_init 872 = .ok (.dup, 1) := by decide +kernel
theorem dX10_init_873 : decode cX10_init 873 = .ok (.sipush 140, 3) := by decide +kernel
theorem dX10_init_876 : decode cX10_init 876 = .ok (.bipush 112, 2) := by decide +kernel
theorem dX10_init_878 : decode cX10_init 878 = .ok (.bastore, 1) := by decide +kernel
theorem dX10_init_879 : decode cX10_init 879 = .ok (.dup, 1) := by decide +kernel
theorem dX10_init_880 : decode cX10_init 880 = .ok (.sipush 141, 3) := by decide +kernel
theorem dX10_init_883 : decode cX10_init 883 = .ok (.bipush 114, 2) := by decide +kernel
theorem dX10_init_885 : decode cX10_init 885 = .ok (.bastore, 1) := by decide +kernel
theorem dX10_init_886 : decode cX10_init 886 = .ok (.dup, 1) := by decide +kernel
theorem dX10_init_887 : decode cX10_init 887 = .ok (.sipush 142, 3) := by decide +kernel
theorem dX10_init_890 : decode cX10_init 890 = .ok (.bipush 111, 2) := by decide +kernel
theorem dX10_init_892 : decode cX10_init 892 = .ok (.bastore, 1) := by decide +kernel
theorem dX10_init_893 : decode cX10_init 893 = .ok (.dup, 1) := by decide +kernel
theorem dX10_init_894 : decode cX10_init 894 = .ok (.sipush 143, 3) := by decide +kernel
theorem dX10_init_897 : decode cX10_init 897 = .ok (.bipush 118, 2) := by decide +kernel
theorem dX10_init_899 : decode cX10_init 899 = .ok (.bastore, 1) := by decide +kernel
theorem dX10_init_900 : decode cX10_init 900 = .ok (.dup, 1) := by decide +kernel
theorem dX10_init_901 : decode cX10_init 901 = .ok (.sipush 144, 3) := by decide +kernel
theorem dX10_init_904 : decode cX10_init 904 = .ok (.bipush 101, 2) := by decide +kernel
theorem dX10_init_906 : decode cX10_init 906 = .ok (.bastore, 1) := by decide +kernel
theorem dX10_init_907 : decode cX10_init 907 = .ok (.dup, 1) := by decide +kernel
theorem dX10_init_908 : decode cX10_init 908 = .ok (.sipush 145, 3) := by decide +kernel
theorem dX10_init_911 : decode cX10_init 911 = .ok (.iconst 0, 1) := by decide +kernel
theorem dX10_init_912 : decode cX10_init 912 = .ok (.bastore, 1) := by decide +kernel
theorem dX10_init_913 : decode cX10_init 913 = .ok (.dup, 1) := by decide +kernel
theorem dX10_init_914 : decode cX10_init 914 = .ok (.sipush 146, 3) := by decide +kernel
theorem dX10_init_917 : decode cX10_init 917 = .ok (.iconst 0, 1) := by decide +kernel
theorem dX10_init_918 : decode cX10_init 918 = .ok (.bastore, 1) := by decide +kernel
theorem dX10_init_919 : decode cX10_init 919 = .ok (.dup, 1) := by decide +kernel
theorem dX10_init_920 : decode cX10_init 920 = .ok (.sipush 147, 3) := by decide +kernel
theorem dX10_init_923 : decode cX10_init 923 = .ok (.bipush 115, 2) := by decide +kernel
theorem dX10_init_925 : decode cX10_init 925 = .ok (.bastore, 1) := by decide +kernel
theorem dX10_init_926 : decode cX10_init 926 = .ok (.dup, 1) := by decide +kernel
theorem dX10_init_927 : decode cX10_init 927 = .ok (.sipush 148, 3) := by decide +kernel
theorem dX10_init_930 : decode cX10_init 930 = .ok (.bipush 117, 2) := by decide +kernel
theorem dX10_init_932 : decode cX10_init 932 = .ok (.bastore, 1) := by decide +kernel
theorem dX10_init_933 : decode cX10_init 933 = .ok (.dup, 1) := by decide +kernel
theorem dX10_init_934 : decode cX10_init 934 = .ok (.sipush 149, 3) := by decide +kernel
theorem dX10_init_937 : decode cX10_init 937 = .ok (.bipush 109, 2) := by decide +kernel
theorem dX10_init_939 : decode cX10_init 939 = .ok (.bastore, 1) := by decide +kernel
theorem dX10_init_940 : decode cX10_init 940 = .ok (.dup, 1) := by decide +kernel
theorem dX10_init_941 : decode cX10_init 941 = .ok (.sipush 150, 3) := by decide +kernel
theorem dX10_init_944 : decode cX10_init 944 = .ok (.bipush 109, 2) := by decide +kernel
theorem dX10_init_946 : decode cX10_init 946 = .ok (.bastore, 1) := by decide +kernel
theorem dX10_init_947 : decode cX10_init 947 = .ok (.dup, 1) := by decide +kernel
theorem dX10_init_948 : decode cX10_init 948 = .ok (.sipush 151, 3) := by decide +kernel
theorem dX10_init_951 : decode cX10_init 951 = .ok (.bipush 111, 2) := by decide +kernel
theorem dX10_init_953 : decode cX10_init 953 = .ok (.bastore, 1) := by decide +kernel
theorem dX10_init_954 : decode cX10_init 954 = .ok (.dup, 1) := by decide +kernel
theorem dX10_init_955 : decode cX10_init 955 = .ok (.sipush 152, 3) := by decide +kernel
theorem dX10_init_958 : decode cX10_init 958 = .ok (.bipush 110, 2) := by decide +kernel
theorem dX10_init_960 : decode cX10_init 960 = .ok (.bastore, 1) := by decide +kernel
theorem dX10_init_961 : decode cX10_init 961 = .ok (.dup, 1) := by decide +kernel
theorem dX10_init_962 : decode cX10_init 962 = .ok (.sipush 153, 3) := by decide +kernel
theorem dX10_init_965 : decode cX10_init 965 = .ok (.bipush 115, 2) := by decide +kernel
theorem dX10_init_967 : decode cX10_init 967 = .ok (.bastore, 1) := by decide +kernel
theorem dX10_init_968 : decode cX10_init 968 = .ok (.dup, 1) := by decide +kernel
theorem dX10_init_969 : decode cX10_init 969 = .ok (.sipush 154, 3) := by decide +kernel
theorem dX10_init_972 : decode cX10_init 972 = .ok (.bipush 104, 2) := by decide +kernel
theorem dX10_init_974 : decode cX10_init 974 = .ok (.bastore, 1) := by decide +kernel
theorem dX10_init_975 : decode cX10_init 975 = .ok (.dup, 1) := by decide +kernel
theorem dX10_init_976 : decode cX10_init 976 = .ok (.sipush 155, 3) := by decide +kernel
theorem dX10_init_979 : decode cX10_init 979 = .ok (.bipush 101, 2) := by decide +kernel
theorem dX10_init_981 : decode cX10_init 981 = .ok (.bastore, 1) := by decide +kernel
theorem dX10_init_982 : decode cX10_init 982 = .ok (.dup, 1) := by decide +kernel
theorem dX10_init_983 : decode cX10_init 983 = .ok (.sipush 156, 3) := by decide +kernel
theorem dX10_init_986 : decode cX10_init 986 = .ok (.bipush 97, 2) := by decide +kernel
theorem dX10_init_988 : decode cX10_init 988 = .ok (.bastore, 1) := by decide +kernel
theorem dX10_init_989 : decode cX10_init 989 = .ok (.dup, 1) := by decide +kernel
theorem dX10_init_990 : decode cX10_init 990 = .ok (.sipush 157, 3) := by decide +kernel
theorem dX10_init_993 : decode cX10_init 993 = .ok (.bipush 114, 2) := by decide +kernel
theorem dX10_init_995 : decode cX10_init 995 = .ok (.bastore, 1) := by decide +kernel
theorem dX10_init_996 : decode cX10_init 996 = .ok (.dup, 1) := by decide +kernel
theorem dX10_init_997 : decode cX10_init 997 = .ok (.sipush 158, 3) := by decide +kernel
theorem dX10_init_1000 : decode cX10_init 1000 = .ok (.bipush 105, 2) := by decide +kernel
theorem dX10_init_1002 : decode cX10_init 1002 = .ok (.bastore, 1) := by decide +kernel
theorem dX10_init_1003 : decode cX10_init 1003 = .ok (.dup, 1) := by decide +kernel
theorem dX10_init_1004 : decode cX10_init 1004 = .ok (.sipush 159, 3) := by decide +kernel
theorem dX10_init_1007 : decode cX10_init 1007 = .ok (.bipush 110, 2) := by decide +kernel
theorem dX10_init_1009 : decode cX10_init 1009 = .ok (.bastore, 1) := by decide +kernel
theorem dX10_init_1010 : decode cX10_init 1010 = .ok (.dup, 1) := by decide +kernel
theorem dX10_init_1011 : decode cX10_init 1011 = .ok (.sipush 160, 3) := by decide +kernel
theorem dX10_init_1014 : decode cX10_init 1014 = .ok (.bipush 103, 2) := by decide +kernel
theorem dX10_init_1016 : decode cX10_init 1016 = .ok (.bastore, 1) := by decide +kernel
theorem dX10_init_1017 : decode cX10_init 1017 = .ok (.dup, 1) := by decide +kernel
theorem dX10_init_1018 : decode cX10_init 1018 = .ok (.sipush 161, 3) := by decide +kernel
theorem dX10_init_1021 : decode cX10_init 1021 = .ok (.bipush 111, 2) := by decide +kernel
theorem dX10_init_1023 : decode cX10_init 1023 = .ok (.bastore, 1) := by decide +kernel
theorem dX10_init_1024 : decode cX10_init 1024 = .ok (.dup, 1) := by decide +kernel
theorem dX10_init_1025 : decode cX10_init 1025 = .ok (.sipush 162, 3) := by decide +kernel
theorem dX10_init_1028 : decode cX10_init 1028 = .ok (.bipush 114, 2) := by decide +kernel
theorem dX10_init_1030 : decode cX10_init 1030 = .ok (.bastore, 1) := by decide +kernel
theorem dX10_init_1031 : decode cX10_init 1031 = .ok (.dup, 1) := by decide +kernel
theorem dX10_init_1032 : decode cX10_init 1032 = .ok (.sipush 163, 3) := by decide +kernel
theorem dX10_init_1035 : decode cX10_init 1035 = .ok (.bipush 100, 2) := by decide +kernel
theorem dX10_init_1037 : decode cX10_init 1037 = .ok (.bastore, 1) := by decide +kernel
theorem dX10_init_1038 : decode cX10_init 1038 = .ok (.dup, 1) := by decide +kernel
theorem dX10_init_1039 : decode cX10_init 1039 = .ok (.sipush 164, 3) := by decide +kernel
theorem dX10_init_1042 : decode cX10_init 1042 = .ok (.bipush 101, 2) := by decide +kernel
theorem dX10_init_1044 : decode cX10_init 1044 = .ok (.bastore, 1) := by decide +kernel
theorem dX10_init_1045 : decode cX10_init 1045 = .ok (.dup, 1) := by decide +kernel
theorem dX10_init_1046 : decode cX10_init 1046 = .ok (.sipush 165, 3) := by decide +kernel
theorem dX10_init_1049 : decode cX10_init 1049 = .ok (.bipush 114, 2) := by decide +kernel
theorem dX10_init_1051 : decode cX10_init 1051 = .ok (.bastore, 1) := by decide +kernel
theorem dX10_init_1052 : decode cX10_init 1052 = .ok (.dup, 1) := by decide +kernel
theorem dX10_init_1053 : decode cX10_init 1053 = .ok (.sipush 166, 3) := by decide +kernel
theorem dX10_init_1056 : decode cX10_init 1056 = .ok (.iconst 0, 1) := by decide +kernel
theorem dX10_init_1057 : decode cX10_init 1057 = .ok (.bastore, 1) := by decide +kernel
theorem dX10_init_1058 : decode cX10_init 1058 = .ok (.dup, 1) := by decide +kernel
theorem dX10_init_1059 : decode cX10_init 1059 = .ok (.sipush 167, 3) := by decide +kernel
theorem dX10_init_1062 : decode cX10_init 1062 = .ok (.iconst 0, 1) := by decide +kernel
theorem dX10_init_1063 : decode cX10_init 1063 = .ok (.bastore, 1) := by decide +kernel
theorem dX10_init_1064 : decode cX10_init 1064 = .ok (.dup, 1) := by decide +kernel
theorem dX10_init_1065 : decode cX10_init 1065 = .ok (.sipush 168, 3) := by decide +kernel
theorem dX10_init_1068 : decode cX10_init 1068 = .ok (.bipush 115, 2) := by decide +kernel
theorem dX10_init_1070 : decode cX10_init 1070 = .ok (.bastore, 1) := by decide +kernel
theorem dX10_init_1071 : decode cX10_init 1071 = .ok (.dup, 1) := by decide +kernel
theorem dX10_init_1072 : decode cX10_init 1072 = .ok (.sipush 169, 3) := by decide +kernel
theorem dX10_init_1075 : decode cX10_init 1075 = .ok (.bipush 101, 2) := by decide +kernel
theorem dX10_init_1077 : decode cX10_init 1077 = .ok (.bastore, 1) := by decide +kernel
theorem dX10_init_1078 : decode cX10_init 1078 = .ok (.dup, 1) := by decide +kernel
theorem dX10_init_1079 : decode cX10_init 1079 = .ok (.sipush 170, 3) := by decide +kernel
theorem dX10_init_1082 : decode cX10_init 1082 = .ok (.bipush 105, 2) := by decide +kernel
theorem dX10_init_1084 : decode cX10_init 1084 = .ok (.bastore, 1) := by decide +kernel
theorem dX10_init_1085 : decode cX10_init 1085 = .ok (.dup, 1) := by decide +kernel
theorem dX10_init_1086 : decode cX10_init 1086 = .ok (.sipush 171, 3) := by decide +kernel
theorem dX10_init_1089 : decode cX10_init 1089 = .ok (.bipush 122, 2) := by decide +kernel
theorem dX10_init_1091 : decode cX10_init 1091 = .ok (.bastore, 1) := by decide +kernel
theorem dX10_init_1092 : decode cX10_init 1092 = .ok (.dup, 1) := by decide +kernel
theorem dX10_init_1093 : decode cX10_init 1093 = .ok (.sipush 172, 3) := by decide +kernel
theorem dX10_init_1096 : decode cX10_init 1096 = .ok (.bipush 117, 2) := by decide +kernel
theorem dX10_init_1098 : decode cX10_init 1098 = .ok (.bastore, 1) := by decide +kernel
theorem dX10_init_1099 : decode cX10_init 1099 = .ok (.dup, 1) := by decide +kernel
theorem dX10_init_1100 : decode cX10_init 1100 = .ok (.sipush 173, 3) := by decide +kernel
theorem dX10_init_1103 : decode cX10_init 1103 = .ok (.bipush 114, 2) := by decide +kernel
theorem dX10_init_1105 : decode cX10_init 1105 = .ok (.bastore, 1) := by decide +kernel
theorem dX10_init_1106 : decode cX10_init 1106 = .ok (.dup, 1) := by decide +kernel
theorem dX10_init_1107 : decode cX10_init 1107 = .ok (.sipush 174, 3) := by decide +kernel
theorem dX10_init_1110 : decode cX10_init 1110 = .ok (.bipush 101, 2) := by decide +kernel
theorem dX10_init_1112 : decode cX10_init 1112 = .ok (.bastore, 1) := by decide +kernel
theorem dX10_init_1113 : decode cX10_init 1113 = .ok (.putfield 35, 3) := by decide +kernel
theorem dX10_init_1116 : decode cX10_init 1116 = .ok (.aload_n 0, 1) := by decide +kernel
theorem dX10_init_1117 : decode cX10_init 1117 = .ok (.bipush 40, 2) := by decide +kernel
theorem dX10_init_1119 : decode cX10_init 1119 = .ok (.newarray .int, 2) := by decide +kernel
theorem dX10_init_1121 : decode cX10_init 1121 = .ok (.putfield 38, 3) := by decide +kernel
theorem dX10_init_1124 : decode cX10_init 1124 = .ok (.aload_n 0, 1) := by decide +kernel
theorem dX10_init_1125 : decode cX10_init 1125 = .ok (.bipush 40, 2) := by decide +kernel
theorem dX10_init_1127 : decode cX10_init 1127 = .ok (.newarray .int, 2) := by decide +kernel
theorem dX10_init_1129 : decode cX10_init 1129 = .ok (.putfield 41, 3) := by decide +kernel
theorem dX10_init_1132 : decode cX10_init 1132 = .ok (.aload_n 0, 1) := by decide +kernel
theorem dX10_init_1133 : decode cX10_init 1133 = .ok (.bipush 40, 2) := by decide +kernel
theorem dX10_init_1135 : decode cX10_init 1135 = .ok (.newarray .int, 2) := by decide +kernel
theorem dX10_init_1137 : decode cX10_init 1137 = .ok (.putfield 44, 3) := by decide +kernel
theorem dX10_init_1140 : decode cX10_init 1140 = .ok (.aload_n 0, 1) := by decide +kernel
theorem dX10_init_1141 : decode cX10_init 1141 = .ok (.bipush 40, 2) := by decide +kernel
theorem dX10_init_1143 : decode cX10_init 1143 = .ok (.newarray .int, 2) := by decide +kernel
theorem dX10_init_1145 : decode cX10_init 1145 = .ok (.putfield 47, 3) := by decide +kernel
theorem dX10_init_1148 : decode cX10_init 1148 = .ok (.aload_n 0, 1) := by decide +kernel
theorem dX10_init_1149 : decode cX10_init 1149 = .ok (.bipush 40, 2) := by decide +kernel
theorem dX10_init_1151 : decode cX10_init 1151 = .ok (.newarray .int, 2) := by decide +kernel
theorem dX10_init_1153 : decode cX10_init 1153 = .ok (.putfield 50, 3) := by decide +kernel
theorem dX10_init_1156 : decode cX10_init 1156 = .ok (.aload_n 0, 1) := by decide +kernel
theorem dX10_init_1157 : decode cX10_init 1157 = .ok (.bipush 40, 2) := by decide +kernel
theorem dX10_init_1159 : decode cX10_init 1159 = .ok (.newarray .int, 2) := by decide +kernel
theorem dX10_init_1161 : decode cX10_init 1161 = .ok (.putfield 53, 3) := by decide +kernel
theorem dX10_init_1164 : decode cX10_init 1164 = .ok (.aload_n 0, 1) := by decide +kernel
theorem dX10_init_1165 : decode cX10_init 1165 = .ok (.bipush 40, 2) := by decide +kernel
theorem dX10_init_1167 : decode cX10_init 1167 = .ok (.newarray .boolean, 2) := by decide +kernel
theorem dX10_init_1169 : decode cX10_init 1169 = .ok (.putfield 56, 3) := by decide +kernel
theorem dX10_init_1172 : decode cX10_init 1172 = .ok (.aload_n 0, 1) := by decide +kernel
theorem dX10_init_1173 : decode cX10_init 1173 = .ok (.bipush 40, 2) := by decide +kernel
theorem dX10_init_1175 : decode cX10_init 1175 = .ok (.newarray .boolean, 2) := by decide +kernel
theorem dX10_init_1177 : decode cX10_init 1177 = .ok (.putfield 60, 3) := by decide +kernel
theorem dX10_init_1180 : decode cX10_init 1180 = .ok (.aload_n 0, 1) := by decide +kernel
theorem dX10_init_1181 : decode cX10_init 1181 = .ok (.sipush 400, 3) := by decide +kernel
theorem dX10_init_1184 : decode cX10_init 1184 = .ok (.newarray .int, 2) := by decide +kernel
theorem dX10_init_1186 : decode cX10_init 1186 = .ok (.putfield 63, 3) := by decide +kernel
theorem dX10_init_1189 : decode cX10_init 1189 = .ok (.aload_n 0, 1) := by decide +kernel
theorem dX10_init_1190 : decode cX10_init 1190 = .ok (.sipush 400, 3) := by decide +kernel
theorem dX10_init_1193 : decode cX10_init 1193 = .ok (.newarray .int, 2) := by decide +kernel
theorem dX10_init_1195 : decode cX10_init 1195 = .ok (.putfield 66, 3) := by decide +kernel
theorem dX10_init_1198 : decode cX10_init 1198 = .ok (.aload_n 0, 1) := by decide +kernel
theorem dX10_init_1199 : decode cX10_init 1199 = .ok (.sipush 400, 3) := by decide +kernel
theorem dX10_init_1202 : decode cX10_init 1202 = .ok (.newarray .int, 2) := by decide +kernel
theorem dX10_init_1204 : decode cX10_init 1204 = .ok (.putfield 69, 3) := by decide +kernel
theorem dX10_init_1207 : decode cX10_init 1207 = .ok (.aload_n 0, 1) := by decide +kernel
theorem dX10_init_1208 : decode cX10_init 1208 = .ok (.sipush 400, 3) := by decide +kernel
theorem dX10_init_1211 : decode cX10_init 1211 = .ok (.newarray .int, 2) := by decide +kernel
theorem dX10_init_1213 : decode cX10_init 1213 = .ok (.putfield 72, 3) := by decide +kernel
theorem dX10_init_1216 : decode cX10_init 1216 = .ok (.aload_n 0, 1) := by decide +kernel
theorem dX10_init_1217 : decode cX10_init 1217 = .ok (.sipush 400, 3) := by decide +kernel
theorem dX10_init_1220 : decode cX10_init 1220 = .ok (.newarray .int, 2) := by decide +kernel
theorem dX10_init_1222 : decode cX10_init 1222 = .ok (.putfield 75, 3) := by decide +kernel
theorem dX10_init_1225 : decode cX10_init 1225 = .ok (.aload_n 0, 1) := by decide +kernel
theorem dX10_init_1226 : decode cX10_init 1226 = .ok (.sipush 400, 3) := by decide +kernel
theorem dX10_init_1229 : decode cX10_init 1229 = .ok (.newarray .boolean, 2) := by decide +kernel
theorem dX10_init_1231 : decode cX10_init 1231 = .ok (.putfield 78, 3) := by decide +kernel
theorem dX10_init_1234 : decode cX10_init 1234 = .ok (.aload_n 0, 1) := by decide +kernel
theorem dX10_init_1235 : decode cX10_init 1235 = .ok (.bipush 100, 2) := by decide +kernel
theorem dX10_init_1237 : decode cX10_init 1237 = .ok (.newarray .int, 2) := by decide +kernel
theorem dX10_init_1239 : decode cX10_init 1239 = .ok (.putfield 81, 3) := by decide +kernel
theorem dX10_init_1242 : decode cX10_init 1242 = .ok (.aload_n 0, 1) := by decide +kernel
theorem dX10_init_1243 : decode cX10_init 1243 = .ok (.bipush 100, 2) := by decide +kernel
theorem dX10_init_1245 : decode cX10_init 1245 = .ok (.newarray .int, 2) := by decide +kernel
theorem dX10_init_1247 : decode cX10_init 1247 = .ok (.putfield 84, 3) := by decide +kernel
theorem dX10_init_1250 : decode cX10_init 1250 = .ok (.aload_n 0, 1) := by decide +kernel
theorem dX10_init_1251 : decode cX10_init 1251 = .ok (.bipush 100, 2) := by decide +kernel
theorem dX10_init_1253 : decode cX10_init 1253 = .ok (.newarray .int, 2) := by decide +kernel
theorem dX10_init_1255 : decode cX10_init 1255 = .ok (.putfield 87, 3) := by decide +kernel
theorem dX10_init_1258 : decode cX10_init 1258 = .ok (.aload_n 0, 1) := by decide +kernel
theorem dX10_init_1259 : decode cX10_init 1259 = .ok (.bipush 100, 2) := by decide +kernel
theorem dX10_init_1261 : decode cX10_init 1261 = .ok (.newarray .int, 2) := by decide +kernel
theorem dX10_init_1263 : decode cX10_init 1263 = .ok (.putfield 90, 3) := by decide +kernel
theorem dX10_init_1266 : decode cX10_init 1266 = .ok (.aload_n 0, 1) := by decide +kernel
theorem dX10_init_1267 : decode cX10_init 1267 = .ok (.bipush 100, 2) := by decide +kernel
theorem dX10_init_1269 : decode cX10_init 1269 = .ok (.newarray .boolean, 2) := by decide +kernel
theorem dX10_init_1271 : decode cX10_init 1271 = .ok (.putfield 93, 3) := by decide +kernel
theorem dX10_init_1274 : decode cX10_init 1274 = .ok (.aload_n 0, 1) := by decide +kernel
theorem dX10_init_1275 : decode cX10_init 1275 = .ok (.bipush 100, 2) := by decide +kernel
theorem dX10_init_1277 : decode cX10_init 1277 = .ok (.newarray .int, 2) := by decide +kernel
theorem dX10_init_1279 : decode cX10_init 1279 = .ok (.putfield 96, 3) := by decide +kernel
theorem dX10_init_1282 : decode cX10_init 1282 = .ok (.aload_n 0, 1) := by decide +kernel
theorem dX10_init_1283 : decode cX10_init 1283 = .ok (.bipush 100, 2) := by decide +kernel
theorem dX10_init_1285 : decode cX10_init 1285 = .ok (.newarray .int, 2) := by decide +kernel
theorem dX10_init_1287 : decode cX10_init 1287 = .ok (.putfield 99, 3) := by decide +kernel
theorem dX10_init_1290 : decode cX10_init 1290 = .ok (.aload_n 0, 1) := by decide +kernel
theorem dX10_init_1291 : decode cX10_init 1291 = .ok (.bipush 100, 2) := by decide +kernel
theorem dX10_init_1293 : decode cX10_init 1293 = .ok (.newarray .int, 2) := by decide +kernel
theorem dX10_init_1295 : decode cX10_init 1295 = .ok (.putfield 102, 3) := by decide +kernel
theorem dX10_init_1298 : decode cX10_init 1298 = .ok (.aload_n 0, 1) := by decide +kernel
theorem dX10_init_1299 : decode cX10_init 1299 = .ok (.bipush 100, 2) := by decide +kernel
theorem dX10_init_1301 : decode cX10_init 1301 = .ok (.newarray .int, 2) := by decide +kernel
theorem dX10_init_1303 : decode cX10_init 1303 = .ok (.putfield 105, 3) := by decide +kernel
theorem dX10_init_1306 : decode cX10_init 1306 = .ok (.aload_n 0, 1) := by decide +kernel
theorem dX10_init_1307 : decode cX10_init 1307 = .ok (.bipush 100, 2) := by decide +kernel
theorem dX10_init_1309 : decode cX10_init 1309 = .ok (.newarray .int, 2) := by decide +kernel
theorem dX10_init_1311 : decode cX10_init 1311 = .ok (.putfield 108, 3) := by decide +kernel
theorem dX10_init_1314 : decode cX10_init 1314 = .ok (.aload_n 0, 1) := by decide +kernel
theorem dX10_init_1315 : decode cX10_init 1315 = .ok (.bipush 100, 2) := by decide +kernel
theorem dX10_init_1317 : decode cX10_init 1317 = .ok (.newarray .int, 2) := by decide +kernel
theorem dX10_init_1319 : decode cX10_init 1319 = .ok (.putfield 111, 3) := by decide +kernel
theorem dX10_init_1322 : decode cX10_init 1322 = .ok (.aload_n 0, 1) := by decide +kernel
theorem dX10_init_1323 : decode cX10_init 1323 = .ok (.bipush 100, 2) := by decide +kernel
theorem dX10_init_1325 : decode cX10_init 1325 = .ok (.newarray .int, 2) := by decide +kernel
theorem dX10_init_1327 : decode cX10_init 1327 = .ok (.putfield 114, 3) := by decide +kernel
theorem dX10_init_1330 : decode cX10_init 1330 = .ok (.aload_n 0, 1) := by decide +kernel
theorem dX10_init_1331 : decode cX10_init 1331 = .ok (.bipush 100, 2) := by decide +kernel
theorem dX10_init_1333 : decode cX10_init 1333 = .ok (.newarray .int, 2) := by decide +kernel
theorem dX10_init_1335 : decode cX10_init 1335 = .ok (.putfield 117, 3) := by decide +kernel
theorem dX10_init_1338 : decode cX10_init 1338 = .ok (.aload_n 0, 1) := by decide +kernel
theorem dX10_init_1339 : decode cX10_init 1339 = .ok (.bipush 100, 2) := by decide +kernel
theorem dX10_init_1341 : decode cX10_init 1341 = .ok (.newarray .int, 2) := by decide +kernel
theorem dX10_init_1343 : decode cX10_init 1343 = .ok (.putfield 120, 3) := by decide +kernel
theorem dX10_init_1346 : decode cX10_init 1346 = .ok (.aload_n 0, 1) := by decide +kernel
theorem dX10_init_1347 : decode cX10_init 1347 = .ok (.bipush 100, 2) := by decide +kernel
theorem dX10_init_1349 : decode cX10_init 1349 = .ok (.newarray .int, 2) := by decide +kernel
theorem dX10_init_1351 : decode cX10_init 1351 = .ok (.putfield 123, 3) := by decide +kernel
theorem dX10_init_1354 : decode cX10_init 1354 = .ok (.aload_n 0, 1) := by decide +kernel
theorem dX10_init_1355 : decode cX10_init 1355 = .ok (.sipush 300, 3) := by decide +kernel
theorem dX10_init_1358 : decode cX10_init 1358 = .ok (.newarray .int, 2) := by decide +kernel
theorem dX10_init_1360 : decode cX10_init 1360 = .ok (.putfield 126, 3) := by decide +kernel
theorem dX10_init_1363 : decode cX10_init 1363 = .ok (.aload_n 0, 1) := by decide +kernel
theorem dX10_init_1364 : decode cX10_init 1364 = .ok (.sipush 800, 3) := by decide +kernel
theorem dX10_init_1367 : decode cX10_init 1367 = .ok (.newarray .int, 2) := by decide +kernel
theorem dX10_init_1369 : decode cX10_init 1369 = .ok (.putfield 129, 3) := by decide +kernel
theorem dX10_init_1372 : decode cX10_init 1372 = .ok (.aload_n 0, 1) := by decide +kernel
theorem dX10_init_1373 : decode cX10_init 1373 = .ok (.bipush 100, 2) := by decide +kernel
theorem dX10_init_1375 : decode cX10_init 1375 = .ok (.newarray .int, 2) := by decide +kernel
theorem dX10_init_1377 : decode cX10_init 1377 = .ok (.putfield 132, 3) := by decide +kernel
theorem dX10_init_1380 : decode cX10_init 1380 = .ok (.aload_n 0, 1) := by decide +kernel
theorem dX10_init_1381 : decode cX10_init 1381 = .ok (.bipush 100, 2) := by decide +kernel
theorem dX10_init_1383 : decode cX10_init 1383 = .ok (.newarray .int, 2) := by decide +kernel
theorem dX10_init_1385 : decode cX10_init 1385 = .ok (.putfield 135, 3) := by decide +kernel
theorem dX10_init_1388 : decode cX10_init 1388 = .ok (.aload_n 0, 1) := by decide +kernel
theorem dX10_init_1389 : decode cX10_init 1389 = .ok (.bipush 100, 2) := by decide +kernel
theorem dX10_init_1391 : decode cX10_init 1391 = .ok (.newarray .int, 2) := by decide +kernel
theorem dX10_init_1393 : decode cX10_init 1393 = .ok (.putfield 138, 3) := by decide +kernel
theorem dX10_init_1396 : decode cX10_init 1396 = .ok (.aload_n 0, 1) := by decide +kernel
theorem dX10_init_1397 : decode cX10_init 1397 = .ok (.bipush 100, 2) := by decide +kernel
theorem dX10_init_1399 : decode cX10_init 1399 = .ok (.newarray .int, 2) := by decide +kernel
theorem dX10_init_1401 : decode cX10_init 1401 = .ok (.putfield 141, 3) := by decide +kernel
theorem dX10_init_1404 : decode cX10_init 1404 = .ok (.aload_n 0, 1) := by decide +kernel
theorem dX10_init_1405 : decode cX10_init 1405 = .ok (.sipush 600, 3) := by decide +kernel
theorem dX10_init_1408 : decode cX10_init 1408 = .ok (.newarray .int, 2) := by decide +kernel
theorem dX10_init_1410 : decode cX10_init 1410 = .ok (.putfield 144, 3) := by decide +kernel
theorem dX10_init_1413 : decode cX10_init 1413 = .ok (.aload_n 0, 1) := by decide +kernel
theorem dX10_init_1414 : decode cX10_init 1414 = .ok (.sipush 600, 3) := by decide +kernel
theorem dX10_init_1417 : decode cX10_init 1417 = .ok (.newarray .int, 2) := by decide +kernel
theorem dX10_init_1419 : decode cX10_init 1419 = .ok (.putfield 147, 3) := by decide +kernel
theorem dX10_init_1422 : decode cX10_init 1422 = .ok (.aload_n 0, 1) := by decide +kernel
theorem dX10_init_1423 : decode cX10_init 1423 = .ok (.sipush 600, 3) := by decide +kernel
theorem dX10_init_1426 : decode cX10_init 1426 = .ok (.newarray .int, 2) := by decide +kernel
theorem dX10_init_1428 : decode cX10_init 1428 = .ok (.putfield 150, 3) := by decide +kernel
theorem dX10_init_1431 : decode cX10_init 1431 = .ok (.aload_n 0, 1) := by decide +kernel
theorem dX10_init_1432 : decode cX10_init 1432 = .ok (.sipush 600, 3) := by decide +kernel
theorem dX10_init_1435 : decode cX10_init 1435 = .ok (.newarray .int, 2) := by decide +kernel
theorem dX10_init_1437 : decode cX10_init 1437 = .ok (.putfield 153, 3) := by decide +kernel
theorem dX10_init_1440 : decode cX10_init 1440 = .ok (.aload_n 0, 1) := by decide +kernel
theorem dX10_init_1441 : decode cX10_init 1441 = .ok (.sipush 600, 3) := by decide +kernel
theorem dX10_init_1444 : decode cX10_init 1444 = .ok (.newarray .int, 2) := by decide +kernel
theorem dX10_init_1446 : decode cX10_init 1446 = .ok (.putfield 156, 3) := by decide +kernel
theorem dX10_init_1449 : decode cX10_init 1449 = .ok (.aload_n 0, 1) := by decide +kernel
theorem dX10_init_1450 : decode cX10_init 1450 = .ok (.bipush 40, 2) := by decide +kernel
theorem dX10_init_1452 : decode cX10_init 1452 = .ok (.newarray .int, 2) := by decide +kernel
theorem dX10_init_1454 : decode cX10_init 1454 = .ok (.putfield 159, 3) := by decide +kernel
theorem dX10_init_1457 : decode cX10_init 1457 = .ok (.aload_n 0, 1) := by decide +kernel
theorem dX10_init_1458 : decode cX10_init 1458 = .ok (.sipush 128, 3) := by decide +kernel
theorem dX10_init_1461 : decode cX10_init 1461 = .ok (.newarray .boolean, 2) := by decide +kernel
theorem dX10_init_1463 : decode cX10_init 1463 = .ok (.putfield 162, 3) := by decide +kernel
theorem dX10_init_1466 : decode cX10_init 1466 = .ok (.aload_n 0, 1) := by decide +kernel
theorem dX10_init_1467 : decode cX10_init 1467 = .ok (.iconst 4, 1) := by decide +kernel
theorem dX10_init_1468 : decode cX10_init 1468 = .ok (.newarray .int, 2) := by decide +kernel
theorem dX10_init_1470 : decode cX10_init 1470 = .ok (.putfield 165, 3) := by decide +kernel
theorem dX10_init_1473 : decode cX10_init 1473 = .ok (.aload_n 0, 1) := by decide +kernel
theorem dX10_init_1474 : decode cX10_init 1474 = .ok (.iconst 4, 1) := by decide +kernel
theorem dX10_init_1475 : decode cX10_init 1475 = .ok (.newarray .int, 2) := by decide +kernel
theorem dX10_init_1477 : decode cX10_init 1477 = .ok (.putfield 168, 3) := by decide +kernel
theorem dX10_init_1480 : decode cX10_init 1480 = .ok (.aload_n 0, 1) := by decide +kernel
theorem dX10_init_1481 : decode cX10_init 1481 = .ok (.iconst 4, 1) := by decide +kernel
theorem dX10_init_1482 : decode cX10_init 1482 = .ok (.newarray .int, 2) := by decide +kernel
theorem dX10_init_1484 : decode cX10_init 1484 = .ok (.putfield 171, 3) := by decide +kernel
theorem dX10_init_1487 : decode cX10_init 1487 = .ok (.aload_n 0, 1) := by decide +kernel
theorem dX10_init_1488 : decode cX10_init 1488 = .ok (.iconst 4, 1) := by decide +kernel
theorem dX10_init_1489 : decode cX10_init 1489 = .ok (.newarray .int, 2) := by decide +kernel
theorem dX10_init_1491 : decode cX10_init 1491 = .ok (.putfield 174, 3) := by decide +kernel
theorem dX10_init_1494 : decode cX10_init 1494 = .ok (.aload_n 0, 1) := by decide +kernel
theorem dX10_init_1495 : decode cX10_init 1495 = .ok (.iconst 4, 1) := by decide +kernel
theorem dX10_init_1496 : decode cX10_init 1496 = .ok (.newarray .int, 2) := by decide +kernel
theorem dX10_init_1498 : decode cX10_init 1498 = .ok (.putfield 177, 3) := by decide +kernel
theorem dX10_init_1501 : decode cX10_init 1501 = .ok (.aload_n 0, 1) := by decide +kernel
theorem dX10_init_1502 : decode cX10_init 1502 = .ok (.iconst 4, 1) := by decide +kernel
theorem dX10_init_1503 : decode cX10_init 1503 = .ok (.newarray .int, 2) := by decide +kernel
theorem dX10_init_1505 : decode cX10_init 1505 = .ok (.putfield 180, 3) := by decide +kernel
theorem dX10_init_1508 : decode cX10_init 1508 = .ok (.aload_n 0, 1) := by decide +kernel
theorem dX10_init_1509 : decode cX10_init 1509 = .ok (.iconst 4, 1) := by decide +kernel
theorem dX10_init_1510 : decode cX10_init 1510 = .ok (.newarray .int, 2) := by decide +kernel
theorem dX10_init_1512 : decode cX10_init 1512 = .ok (.putfield 183, 3) := by decide +kernel
theorem dX10_init_1515 : decode cX10_init 1515 = .ok (.aload_n 0, 1) := by decide +kernel
theorem dX10_init_1516 : decode cX10_init 1516 = .ok (.iconst 4, 1) := by decide +kernel
theorem dX10_init_1517 : decode cX10_init 1517 = .ok (.newarray .int, 2) := by decide +kernel
theorem dX10_init_1519 : decode cX10_init 1519 = .ok (.putfield 186, 3) := by decide +kernel
theorem dX10_init_1522 : decode cX10_init 1522 = .ok (.aload_n 0, 1) := by decide +kernel
theorem dX10_init_1523 : decode cX10_init 1523 = .ok (.sipush 1600, 3) := by decide +kernel
theorem dX10_init_1526 : decode cX10_init 1526 = .ok (.newarray .int, 2) := by decide +kernel
theorem dX10_init_1528 : decode cX10_init 1528 = .ok (.putfield 189, 3) := by decide +kernel
theorem dX10_init_1531 : decode cX10_init 1531 = .ok (.aload_n 0, 1) := by decide +kernel
theorem dX10_init_1532 : decode cX10_init 1532 = .ok (.sipush 300, 3) := by decide +kernel
theorem dX10_init_1535 : decode cX10_init 1535 = .ok (.newarray .int, 2) := by decide +kernel
theorem dX10_init_1537 : decode cX10_init 1537 = .ok (.putfield 192, 3) := by decide +kernel
theorem dX10_init_1540 : decode cX10_init 1540 = .ok (.aload_n 0, 1) := by decide +kernel
theorem dX10_init_1541 : decode cX10_init 1541 = .ok (.iconst 4, 1) := by decide +kernel
theorem dX10_init_1542 : decode cX10_init 1542 = .ok (.newarray .int, 2) := by decide +kernel
theorem dX10_init_1544 : decode cX10_init 1544 = .ok (.putfield 195, 3) := by decide +kernel
theorem dX10_init_1547 : decode cX10_init 1547 = .ok (.aload_n 0, 1) := by decide +kernel
theorem dX10_init_1548 : decode cX10_init 1548 = .ok (.iconst 4, 1) := by decide +kernel
theorem dX10_init_1549 : decode cX10_init 1549 = .ok (.newarray .int, 2) := by decide +kernel
theorem dX10_init_1551 : decode cX10_init 1551 = .ok (.putfield 198, 3) := by decide +kernel
theorem dX10_init_1554 : decode cX10_init 1554 = .ok (.aload_n 0, 1) := by decide +kernel
theorem dX10_init_1555 : decode cX10_init 1555 = .ok (.bipush 8, 2) := by decide +kernel
theorem dX10_init_1557 : decode cX10_init 1557 = .ok (.newarray .int, 2) := by decide +kernel
theorem dX10_init_1559 : decode cX10_init 1559 = .ok (.putfield 201, 3) := by decide +kernel
theorem dX10_init_1562 : decode cX10_init 1562 = .ok (.aload_n 0, 1) := by decide +kernel
theorem dX10_init_1563 : decode cX10_init 1563 = .ok (.bipush 8, 2) := by decide +kernel
theorem dX10_init_1565 : decode cX10_init 1565 = .ok (.newarray .int, 2) := by decide +kernel
theorem dX10_init_1567 : decode cX10_init 1567 = .ok (.putfield 204, 3) := by decide +kernel
theorem dX10_init_1570 : decode cX10_init 1570 = .ok (.aload_n 0, 1) := by decide +kernel
theorem dX10_init_1571 : decode cX10_init 1571 = .ok (.sipush 2304, 3) := by decide +kernel
theorem dX10_init_1574 : decode cX10_init 1574 = .ok (.newarray .int, 2) := by decide +kernel
theorem dX10_init_1576 : decode cX10_init 1576 = .ok (.putfield 207, 3) := by decide +kernel
theorem dX10_init_1579 : decode cX10_init 1579 = .ok (.aload_n 0, 1) := by decide +kernel
theorem dX10_init_1580 : decode cX10_init 1580 = .ok (.bipush 61, 2) := by decide +kernel
theorem dX10_init_1582 : decode cX10_init 1582 = .ok (.newarray .long, 2) := by decide +kernel
theorem dX10_init_1584 : decode cX10_init 1584 = .ok (.putfield 210, 3) := by decide +kernel
theorem dX10_init_1587 : decode cX10_init 1587 = .ok (.iconst 0, 1) := by decide +kernel
theorem dX10_init_1588 : decode cX10_init 1588 = .ok (.istore_n 1, 1) := by decide +kernel
theorem dX10_init_1589 : decode cX10_init 1589 = .ok (.iload_n 1, 1) := by decide +kernel
theorem dX10_init_1590 : decode cX10_init 1590 = .ok (.bipush 13, 2) := by decide +kernel
theorem dX10_init_1592 : decode cX10_init 1592 = .ok (.if_icmp .ge 19, 3) := by decide +kernel
theorem dX10_init_1595 : decode cX10_init 1595 = .ok (.aload_n 0, 1) := by decide +kernel
theorem dX10_init_1596 : decode cX10_init 1596 = .ok (.getfield 13, 3) := by decide +kernel
theorem dX10_init_1599 : decode cX10_init 1599 = .ok (.iload_n 1, 1) := by decide +kernel
theorem dX10_init_1600 : decode cX10_init 1600 = .ok (.iload_n 1, 1) := by decide +kernel
theorem dX10_init_1601 : decode cX10_init 1601 = .ok (.invokestatic 214, 3) := by decide +kernel
theorem dX10_init_1604 : decode cX10_init 1604 = .ok (.iastore, 1) := by decide +kernel
theorem dX10_init_1605 : decode cX10_init 1605 = .ok (.iinc 1 1, 3) := by decide +kernel
theorem dX10_init_1608 : decode cX10_init 1608 = .ok (.goto (-19), 3) := by decide +kernel
theorem dX10_init_1611 : decode cX10_init 1611 = .ok (.aload_n 0, 1) := by decide +kernel
theorem dX10_init_1612 : decode cX10_init 1612 = .ok (.invokevirtual 218, 3) := by decide +kernel
theorem dX10_init_1615 : decode cX10_init 1615 = .ok (.aload_n 0, 1) := by decide +kernel
theorem dX10_init_1616 : decode cX10_init 1616 = .ok (.invokevirtual 221, 3) := by decide +kernel
theorem dX10_init_1619 : decode cX10_init 1619 = .ok (.aload_n 0, 1) := by decide +kernel
theorem dX10_init_1620 : decode cX10_init 1620 = .ok (.iconst 0, 1) := by decide +kernel
theorem dX10_init_1621 : decode cX10_init 1621 = .ok (.invokevirtual 224, 3) := by decide +kernel
theorem dX10_init_1624 : decode cX10_init 1624 = .ok (.return_, 1) := by decide +kernel
set_option maxHeartbeats 4000000 in
set_option maxRecDepth 100000 in
theorem sg_X10_init_31 (l : Launch) (dC : Nat → ClassId) (dI : Nat → Nat → Nat) (dA : Nat → ClassId) (L : List Nat) (h : hx_h) (sz : Nat) (y : Nat) (q_2 q_7 q_12 q_17 q_22 q_27 q_32 q_222 q_227 q_232 q_237 q_242 q_247 q_472 q_502 : Nat) {p : Program} {e : Env} {s : State} {m : MethodId} {below : List Frame} {meth : Method} {c : Code} (hx : p.tables.exec = Jvm.exec) (hb : c.code = cX10_init) (hml : c.maxLocals = 2) (hr : meth.sig.returnType = none) (hlk : meth.locks = false) (hts : ∀ w ∈ hx_all, w.before ([.ref y] : List Value).toArray s = true) (hown : s.vm.findClass "SmallCourtModel" = some m.cls) (hin : meth.name = "<init>") (hsz : s.heap.size = sz) (L1 : List Nat) (hl1 : hx_h) (H : Heap) (locs : List Loc) (ls : Array Slot) (hW : hx_W P_tb (P_ty dA) (dC, dI) vwCl (hx_A L sz) s.heap L1 hl1 s H locs) (hM : hx_S P_tb [(10, 2), (10, 3), (10, 4), (10, 5), (10, 6), (10, 12), (10, 14), (10, 15), (10, 16), (10, 17), (10, 18), (10, 19), (10, 21), (10, 22), (10, 23), (10, 24), (10, 25), (10, 26), (10, 27), (10, 28), (10, 30), (10, 31), (10, 32), (10, 33), (10, 34), (10, 35), (10, 37), (10, 38), (10, 39), (10, 40), (10, 41), (10, 42), (10, 43), (10, 44), (10, 45), (10, 46), (10, 47), (10, 48), (10, 49), (10, 50), (10, 51), (10, 52), (10, 53), (10, 54), (10, 55), (10, 56), (10, 58), (10, 60), (10, 61), (10, 62), (10, 63), (10, 64), (10, 65), (10, 66), (10, 73), (10, 74), (10, 76), (10, 77), (10, 78), (10, 79), (10, 80), (10, 81), (10, 82), (10, 85), (10, 88), (10, 89), (10, 91), (10, 93), (10, 94), (10, 97), (50, 0), (51, 0), (52, 0), (55, 0), (57, 0)] L h L1 hl1) (f_5 : hl1.2.2 y 2 = some q_2) (f_10 : hl1.2.2 y 3 = some q_7) (f_15 : hl1.2.2 y 4 = some q_12) (f_20 : hl1.2.2 y 5 = some q_17) (f_25 : hl1.2.2 y 6 = some q_22) (f_30 : hl1.2.2 y 12 = some q_27) (f_35 : hl1.2.2 y 15 = some q_32) (f_225 : hl1.2.2 y 21 = some q_222) (f_230 : hl1.2.2 y 22 = some q_227) (f_235 : hl1.2.2 y 23 = some q_232) (f_240 : hl1.2.2 y 24 = some q_237) (f_245 : hl1.2.2 y 25 = some q_242) (f_250 : hl1.2.2 y 26 = some q_247) (f_475 : hl1.2.2 y 82 = some q_472) (f_505 : hl1.2.2 y 94 = some q_502) (f_611 : hl1.2.1 y 14 = (3 : Int32)) (fa_600 : ∀ j, j < 13 → hl1.2.1 q_7 j = P_w1 j) (gy : hx_g L1 hl1 y 10) (gq_2 : hx_g L1 hl1 q_2 49) (gq_7 : hx_g L1 hl1 q_7 50) (gq_12 : hx_g L1 hl1 q_12 51) (gq_17 : hx_g L1 hl1 q_17 52) (gq_22 : hx_g L1 hl1 q_22 53) (gq_27 : hx_g L1 hl1 q_27 54) (gq_32 : hx_g L1 hl1 q_32 55) (gq_222 : hx_g L1 hl1 q_222 58) (gq_227 : hx_g L1 hl1 q_227 59) (gq_232 : hx_g L1 hl1 q_232 60) (gq_237 : hx_g L1 hl1 q_237 61) (gq_242 : hx_g L1 hl1 q_242 62) (gq_247 : hx_g L1 hl1 q_247 63) (gq_472 : hx_g L1 hl1 q_472 108) (gq_502 : hx_g L1 hl1 q_502 114) (hl : lv_has ls 2 [(1, .int (13 : Int32)), (0, .ref y)]) : W p l e ({ frames := 2, cells := 67, slots := 15340, locals := 42 }) s m ([.ref y] : List Value).toArray below meth c H locs 67 15340 (MQ below (va_Qv (fun (u : List Nat × hx_h) => hx_S P_tb [(10, 2), (10, 3), (10, 4), (10, 5), (10, 6), (10, 12), (10, 14), (10, 15), (10, 16), (10, 17), (10, 18), (10, 19), (10, 21), (10, 22), (10, 23), (10, 24), (10, 25), (10, 26), (10, 27), (10, 28), (10, 30), (10, 31), (10, 32), (10, 33), (10, 34), (10, 35), (10, 37), (10, 38), (10, 39), (10, 40), (10, 41), (10, 42), (10, 43), (10, 44), (10, 45), (10, 46), (10, 47), (10, 48), (10, 49), (10, 50), (10, 51), (10, 52), (10, 53), (10, 54), (10, 55), (10, 56), (10, 58), (10, 60), (10, 61), (10, 62), (10, 63), (10, 64), (10, 65), (10, 66), (10, 73), (10, 74), (10, 76), (10, 77), (10, 78), (10, 79), (10, 80), (10, 81), (10, 82), (10, 85), (10, 88), (10, 89), (10, 91), (10, 93), (10, 94), (10, 97), (50, 0), (51, 0), (52, 0), (55, 0), (57, 0)] L h u.1 u.2 ∧ (∃ q, u.2.2.2 y 2 = some q ∧ hx_g u.1 u.2 q 49) ∧ (∃ q, u.2.2.2 y 3 = some q ∧ hx_g u.1 u.2 q 50 ∧ (∀ j, j < 13 → u.2.2.1 q j = P_w1 j)) ∧ (∃ q, u.2.2.2 y 4 = some q ∧ hx_g u.1 u.2 q 51) ∧ (∃ q, u.2.2.2 y 5 = some q ∧ hx_g u.1 u.2 q 52) ∧ (∃ q, u.2.2.2 y 6 = some q ∧ hx_g u.1 u.2 q 53) ∧ (∃ q, u.2.2.2 y 12 = some q ∧ hx_g u.1 u.2 q 54) ∧ (∃ q, u.2.2.2 y 15 = some q ∧ hx_g u.1 u.2 q 55) ∧ (∃ q, u.2.2.2 y 21 = some q ∧ hx_g u.1 u.2 q 58) ∧ (∃ q, u.2.2.2 y 22 = some q ∧ hx_g u.1 u.2 q 59) ∧ (∃ q, u.2.2.2 y 23 = some q ∧ hx_g u.1 u.2 q 60) ∧ (∃ q, u.2.2.2 y 24 = some q ∧ hx_g u.1 u.2 q 61) ∧ (∃ q, u.2.2.2 y 25 = some q ∧ hx_g u.1 u.2 q 62) ∧ (∃ q, u.2.2.2 y 26 = some q ∧ hx_g u.1 u.2 q 63) ∧ (∃ q, u.2.2.2 y 82 = some q ∧ hx_g u.1 u.2 q 108) ∧ (∃ q, u.2.2.2 y 94 = some q ∧ hx_g u.1 u.2 q 114)) (hx_E P_tb (P_ty dA) (dC, dI) vwCl (hx_A L sz)) (hx_A L sz)) ([.ref y] : List Value).toArray s 67 15340 (hx_A L sz)) (F0 m 1624 ls []) := by
  refine W.widen (k := 67) (n := 15340) (Nat.le_of_ble_eq_true rfl) (Nat.le_of_ble_eq_true rfl) ?_
  exact hx_retv hx hb hr hlk hW ⟨hM, ⟨q_2, f_5, gq_2⟩, ⟨q_7, f_10, gq_7, fa_600⟩, ⟨q_12, f_15, gq_12⟩, ⟨q_17, f_20, gq_17⟩, ⟨q_22, f_25, gq_22⟩, ⟨q_27, f_30, gq_27⟩, ⟨q_32, f_35, gq_32⟩, ⟨q_222, f_225, gq_222⟩, ⟨q_227, f_230, gq_227⟩, ⟨q_232, f_235, gq_232⟩, ⟨q_237, f_240, gq_237⟩, ⟨q_242, f_245, gq_242⟩, ⟨q_247, f_250, gq_247⟩, ⟨q_472, f_475, gq_472⟩, ⟨q_502, f_505, gq_502⟩⟩ dX10_init_1624

set_option maxHeartbeats 4000000 in
set_option maxRecDepth 100000 in
theorem sg_X10_init_30 (l : Launch) (dC : Nat → ClassId) (dI : Nat → Nat → Nat) (dA : Nat → ClassId) (L : List Nat) (h : hx_h) (sz : Nat) (y : Nat) (q_2 q_7 q_12 q_17 q_22 q_27 q_32 q_222 q_227 q_232 q_237 q_242 q_247 q_472 q_502 : Nat) {p : Program} {e : Env} {s : State} {m : MethodId} {below : List Frame} {meth : Method} {c : Code} (hx : p.tables.exec = Jvm.exec) (hb : c.code = cX10_init) (hml : c.maxLocals = 2) (hr : meth.sig.returnType = none) (hlk : meth.locks = false) (hts : ∀ w ∈ hx_all, w.before ([.ref y] : List Value).toArray s = true) (hown : s.vm.findClass "SmallCourtModel" = some m.cls) (hin : meth.name = "<init>") (hsz : s.heap.size = sz) (L1 : List Nat) (hl1 : hx_h) (H : Heap) (locs : List Loc) (ls : Array Slot) (hW : hx_W P_tb (P_ty dA) (dC, dI) vwCl (hx_A L sz) s.heap L1 hl1 s H locs) (hM : hx_S P_tb [(10, 2), (10, 3), (10, 4), (10, 5), (10, 6), (10, 12), (10, 14), (10, 15), (10, 16), (10, 17), (10, 18), (10, 19), (10, 21), (10, 22), (10, 23), (10, 24), (10, 25), (10, 26), (10, 27), (10, 28), (10, 30), (10, 31), (10, 32), (10, 33), (10, 34), (10, 35), (10, 37), (10, 38), (10, 39), (10, 40), (10, 41), (10, 42), (10, 43), (10, 44), (10, 45), (10, 46), (10, 47), (10, 48), (10, 49), (10, 50), (10, 51), (10, 52), (10, 53), (10, 54), (10, 55), (10, 56), (10, 58), (10, 60), (10, 61), (10, 62), (10, 63), (10, 64), (10, 65), (10, 66), (10, 73), (10, 74), (10, 76), (10, 77), (10, 78), (10, 79), (10, 80), (10, 81), (10, 82), (10, 85), (10, 88), (10, 89), (10, 91), (10, 93), (10, 94), (10, 97), (50, 0), (51, 0), (52, 0), (55, 0), (57, 0)] L h L1 hl1) (f_5 : hl1.2.2 y 2 = some q_2) (f_10 : hl1.2.2 y 3 = some q_7) (f_15 : hl1.2.2 y 4 = some q_12) (f_20 : hl1.2.2 y 5 = some q_17) (f_25 : hl1.2.2 y 6 = some q_22) (f_30 : hl1.2.2 y 12 = some q_27) (f_35 : hl1.2.2 y 15 = some q_32) (f_225 : hl1.2.2 y 21 = some q_222) (f_230 : hl1.2.2 y 22 = some q_227) (f_235 : hl1.2.2 y 23 = some q_232) (f_240 : hl1.2.2 y 24 = some q_237) (f_245 : hl1.2.2 y 25 = some q_242) (f_250 : hl1.2.2 y 26 = some q_247) (f_475 : hl1.2.2 y 82 = some q_472) (f_505 : hl1.2.2 y 94 = some q_502) (f_515 : hl1.2.1 q_7 (0 : Int32).toNatClampNeg = (480 : Int32)) (f_522 : hl1.2.1 q_7 (1 : Int32).toNatClampNeg = (30 : Int32)) (f_529 : hl1.2.1 q_7 (2 : Int32).toNatClampNeg = (12 : Int32)) (f_536 : hl1.2.1 q_7 (3 : Int32).toNatClampNeg = (60 : Int32)) (f_543 : hl1.2.1 q_7 (4 : Int32).toNatClampNeg = (2 : Int32)) (f_550 : hl1.2.1 q_7 (5 : Int32).toNatClampNeg = (4 : Int32)) (f_557 : hl1.2.1 q_7 (6 : Int32).toNatClampNeg = (1 : Int32)) (f_564 : hl1.2.1 q_7 (7 : Int32).toNatClampNeg = (40 : Int32)) (f_571 : hl1.2.1 q_7 (8 : Int32).toNatClampNeg = (21 : Int32)) (f_578 : hl1.2.1 q_7 (9 : Int32).toNatClampNeg = (0 : Int32)) (f_585 : hl1.2.1 q_7 (10 : Int32).toNatClampNeg = (0 : Int32)) (f_592 : hl1.2.1 q_7 (11 : Int32).toNatClampNeg = (0 : Int32))  (gy : hx_g L1 hl1 y 10) (gq_2 : hx_g L1 hl1 q_2 49) (gq_7 : hx_g L1 hl1 q_7 50) (gq_12 : hx_g L1 hl1 q_12 51) (gq_17 : hx_g L1 hl1 q_17 52) (gq_22 : hx_g L1 hl1 q_22 53) (gq_27 : hx_g L1 hl1 q_27 54) (gq_32 : hx_g L1 hl1 q_32 55) (gq_222 : hx_g L1 hl1 q_222 58) (gq_227 : hx_g L1 hl1 q_227 59) (gq_232 : hx_g L1 hl1 q_232 60) (gq_237 : hx_g L1 hl1 q_237 61) (gq_242 : hx_g L1 hl1 q_242 62) (gq_247 : hx_g L1 hl1 q_247 63) (gq_472 : hx_g L1 hl1 q_472 108) (gq_502 : hx_g L1 hl1 q_502 114) (hl : lv_has ls 2 [(1, .int (11 : Int32)), (0, .ref y)]) : W p l e ({ frames := 2, cells := 67, slots := 15340, locals := 42 }) s m ([.ref y] : List Value).toArray below meth c H locs 67 15340 (MQ below (va_Qv (fun (u : List Nat × hx_h) => hx_S P_tb [(10, 2), (10, 3), (10, 4), (10, 5), (10, 6), (10, 12), (10, 14), (10, 15), (10, 16), (10, 17), (10, 18), (10, 19), (10, 21), (10, 22), (10, 23), (10, 24), (10, 25), (10, 26), (10, 27), (10, 28), (10, 30), (10, 31), (10, 32), (10, 33), (10, 34), (10, 35), (10, 37), (10, 38), (10, 39), (10, 40), (10, 41), (10, 42), (10, 43), (10, 44), (10, 45), (10, 46), (10, 47), (10, 48), (10, 49), (10, 50), (10, 51), (10, 52), (10, 53), (10, 54), (10, 55), (10, 56), (10, 58), (10, 60), (10, 61), (10, 62), (10, 63), (10, 64), (10, 65), (10, 66), (10, 73), (10, 74), (10, 76), (10, 77), (10, 78), (10, 79), (10, 80), (10, 81), (10, 82), (10, 85), (10, 88), (10, 89), (10, 91), (10, 93), (10, 94), (10, 97), (50, 0), (51, 0), (52, 0), (55, 0), (57, 0)] L h u.1 u.2 ∧ (∃ q, u.2.2.2 y 2 = some q ∧ hx_g u.1 u.2 q 49) ∧ (∃ q, u.2.2.2 y 3 = some q ∧ hx_g u.1 u.2 q 50 ∧ (∀ j, j < 13 → u.2.2.1 q j = P_w1 j)) ∧ (∃ q, u.2.2.2 y 4 = some q ∧ hx_g u.1 u.2 q 51) ∧ (∃ q, u.2.2.2 y 5 = some q ∧ hx_g u.1 u.2 q 52) ∧ (∃ q, u.2.2.2 y 6 = some q ∧ hx_g u.1 u.2 q 53) ∧ (∃ q, u.2.2.2 y 12 = some q ∧ hx_g u.1 u.2 q 54) ∧ (∃ q, u.2.2.2 y 15 = some q ∧ hx_g u.1 u.2 q 55) ∧ (∃ q, u.2.2.2 y 21 = some q ∧ hx_g u.1 u.2 q 58) ∧ (∃ q, u.2.2.2 y 22 = some q ∧ hx_g u.1 u.2 q 59) ∧ (∃ q, u.2.2.2 y 23 = some q ∧ hx_g u.1 u.2 q 60) ∧ (∃ q, u.2.2.2 y 24 = some q ∧ hx_g u.1 u.2 q 61) ∧ (∃ q, u.2.2.2 y 25 = some q ∧ hx_g u.1 u.2 q 62) ∧ (∃ q, u.2.2.2 y 26 = some q ∧ hx_g u.1 u.2 q 63) ∧ (∃ q, u.2.2.2 y 82 = some q ∧ hx_g u.1 u.2 q 108) ∧ (∃ q, u.2.2.2 y 94 = some q ∧ hx_g u.1 u.2 q 114)) (hx_E P_tb (P_ty dA) (dC, dI) vwCl (hx_A L sz)) (hx_A L sz)) ([.ref y] : List Value).toArray s 67 15340 (hx_A L sz)) (F0 m 1605 ls []) := by
  refine lv_iinc (v := 12) (lv' := [(1, .int (12 : Int32)), (0, .ref y)]) hx hb dX10_init_1605 hl (k := 0) rfl (by decide) (by decide) rfl (fun ls hl => ?_)
  refine lv_goto (tgt := 1589) hx hb dX10_init_1608 (by decide) ?_
  refine lv_iload_n hx hb dX10_init_1589 rfl (lv_at hl 0 rfl) ?_
  refine lv_bipush (v := 13) hx hb dX10_init_1590 (by decide) ?_
  refine hb_icmp_ge (zx := 12) (zy := 13) (tgt := 1611) hx hb (by decide) (by decide) dX10_init_1592 (by decide) (fun c_593 => absurd c_593 (by decide)) (fun c_593 => ?_)
  refine lv_aload_n hx hb dX10_init_1595 rfl (lv_at hl 1 rfl) ?_
  refine hk_getr hx hb hts hC_10 hown hW gy td_10 3 (by decide) rfl kw_1146 ⟨rfl, rfl, rfl⟩ f_10 dX10_init_1596 ?_
  refine lv_iload_n hx hb dX10_init_1599 rfl (lv_at hl 0 rfl) ?_
  refine lv_iload_n hx hb dX10_init_1600 rfl (lv_at hl 0 rfl) ?_
  refine hx_goi (hx_runS (As := [.int (12 : Int32)]) (rest := [.int (12 : Int32), .ref q_7]) ⟨hx, hb, hml, hown, hts⟩ hW (c_X10_without_12 l dC dI dA L1 hl1 H.size ) (va_cwS 1 hts (hx_gS kw_1121 kw_1119 kw_1120 kw_103) rfl rfl rfl (by decide +kernel) ⟨Nat.le_of_ble_eq_true rfl, Nat.le_of_ble_eq_true rfl⟩) rfl hl.1 rfl (Nat.le_of_ble_eq_true rfl) dX10_init_1601 ⟨Nat.le_of_ble_eq_true rfl, Nat.le_of_ble_eq_true rfl⟩) hW (fun r_596 L_594 h_595 H locs p_597 hW => ?_)
  obtain ⟨rfl, eu⟩ := p_597
  cases eu
  refine hk_iast hx hb hW gq_7 td_50 rfl (by decide) rfl dX10_init_1604 (fun H locs h_598 eh_598 hW hs => ?_)
  have f_5 := (hs.o gy trivial rfl).2.trans f_5
  have f_10 := (hs.o gy trivial rfl).2.trans f_10
  have f_15 := (hs.o gy trivial rfl).2.trans f_15
  have f_20 := (hs.o gy trivial rfl).2.trans f_20
  have f_25 := (hs.o gy trivial rfl).2.trans f_25
  have f_30 := (hs.o gy trivial rfl).2.trans f_30
  have f_35 := (hs.o gy trivial rfl).2.trans f_35
  have f_225 := (hs.o gy trivial rfl).2.trans f_225
  have f_230 := (hs.o gy trivial rfl).2.trans f_230
  have f_235 := (hs.o gy trivial rfl).2.trans f_235
  have f_240 := (hs.o gy trivial rfl).2.trans f_240
  have f_245 := (hs.o gy trivial rfl).2.trans f_245
  have f_250 := (hs.o gy trivial rfl).2.trans f_250
  have f_475 := (hs.o gy trivial rfl).2.trans f_475
  have f_505 := (hs.o gy trivial rfl).2.trans f_505
  have hM := hM.tr (hs.mono (by decide))
  have gy := gy.S hs
  have gq_2 := gq_2.S hs
  have gq_7 := gq_7.S hs
  have gq_12 := gq_12.S hs
  have gq_17 := gq_17.S hs
  have gq_22 := gq_22.S hs
  have gq_27 := gq_27.S hs
  have gq_32 := gq_32.S hs
  have gq_222 := gq_222.S hs
  have gq_227 := gq_227.S hs
  have gq_232 := gq_232.S hs
  have gq_237 := gq_237.S hs
  have gq_242 := gq_242.S hs
  have gq_247 := gq_247.S hs
  have gq_472 := gq_472.S hs
  have gq_502 := gq_502.S hs
  have f_515 : h_598.2.1 q_7 (0 : Int32).toNatClampNeg = (480 : Int32) := by rw [eh_598]; exact (hx_pi_ne _ _ (fun z => absurd z.2 (by decide))).trans f_515
  have f_522 : h_598.2.1 q_7 (1 : Int32).toNatClampNeg = (30 : Int32) := by rw [eh_598]; exact (hx_pi_ne _ _ (fun z => absurd z.2 (by decide))).trans f_522
  have f_529 : h_598.2.1 q_7 (2 : Int32).toNatClampNeg = (12 : Int32) := by rw [eh_598]; exact (hx_pi_ne _ _ (fun z => absurd z.2 (by decide))).trans f_529
  have f_536 : h_598.2.1 q_7 (3 : Int32).toNatClampNeg = (60 : Int32) := by rw [eh_598]; exact (hx_pi_ne _ _ (fun z => absurd z.2 (by decide))).trans f_536
  have f_543 : h_598.2.1 q_7 (4 : Int32).toNatClampNeg = (2 : Int32) := by rw [eh_598]; exact (hx_pi_ne _ _ (fun z => absurd z.2 (by decide))).trans f_543
  have f_550 : h_598.2.1 q_7 (5 : Int32).toNatClampNeg = (4 : Int32) := by rw [eh_598]; exact (hx_pi_ne _ _ (fun z => absurd z.2 (by decide))).trans f_550
  have f_557 : h_598.2.1 q_7 (6 : Int32).toNatClampNeg = (1 : Int32) := by rw [eh_598]; exact (hx_pi_ne _ _ (fun z => absurd z.2 (by decide))).trans f_557
  have f_564 : h_598.2.1 q_7 (7 : Int32).toNatClampNeg = (40 : Int32) := by rw [eh_598]; exact (hx_pi_ne _ _ (fun z => absurd z.2 (by decide))).trans f_564
  have f_571 : h_598.2.1 q_7 (8 : Int32).toNatClampNeg = (21 : Int32) := by rw [eh_598]; exact (hx_pi_ne _ _ (fun z => absurd z.2 (by decide))).trans f_571
  have f_578 : h_598.2.1 q_7 (9 : Int32).toNatClampNeg = (0 : Int32) := by rw [eh_598]; exact (hx_pi_ne _ _ (fun z => absurd z.2 (by decide))).trans f_578
  have f_585 : h_598.2.1 q_7 (10 : Int32).toNatClampNeg = (0 : Int32) := by rw [eh_598]; exact (hx_pi_ne _ _ (fun z => absurd z.2 (by decide))).trans f_585
  have f_592 : h_598.2.1 q_7 (11 : Int32).toNatClampNeg = (0 : Int32) := by rw [eh_598]; exact (hx_pi_ne _ _ (fun z => absurd z.2 (by decide))).trans f_592
  have f_599 : h_598.2.1 q_7 (12 : Int32).toNatClampNeg = (0 : Int32) := by rw [eh_598]; exact hx_pi_at _ _ _ _
  refine lv_iinc (v := 13) (lv' := [(1, .int (13 : Int32)), (0, .ref y)]) hx hb dX10_init_1605 hl (k := 0) rfl (by decide) (by decide) rfl (fun ls hl => ?_)
  refine lv_goto (tgt := 1589) hx hb dX10_init_1608 (by decide) ?_
  have fa_600 : ∀ j, j < 13 → h_598.2.1 q_7 j = P_w1 j := by
    intro j hj
    match j, hj with
    | 0, _ => exact f_515
    | 1, _ => exact f_522
    | 2, _ => exact f_529
    | 3, _ => exact f_536
    | 4, _ => exact f_543
    | 5, _ => exact f_550
    | 6, _ => exact f_557
    | 7, _ => exact f_564
    | 8, _ => exact f_571
    | 9, _ => exact f_578
    | 10, _ => exact f_585
    | 11, _ => exact f_592
    | 12, _ => exact f_599
    | k + 13, hk => exact absurd hk (by omega)
  refine lv_iload_n hx hb dX10_init_1589 rfl (lv_at hl 0 rfl) ?_
  refine lv_bipush (v := 13) hx hb dX10_init_1590 (by decide) ?_
  refine hb_icmp_ge (zx := 13) (zy := 13) (tgt := 1611) hx hb (by decide) (by decide) dX10_init_1592 (by decide) (fun c_601 => ?_) (fun c_601 => absurd c_601 (by decide))
  refine lv_aload_n hx hb dX10_init_1611 rfl (lv_at hl 1 rfl) ?_
  refine hx_gov (hx_runV (As := []) (rest := []) ⟨hx, hb, hml, hown, hts⟩ hW gy td_10 (T := TX10) (N := 98) rfl (c_X10_clears l dC dI dA L1 h_598 H.size y gy) (cwV 0 hts (hx_gV kw_1125 kw_1122 kw_1124 kw_48 kw_103) rfl rfl rfl (by decide +kernel) ⟨Nat.le_of_ble_eq_true rfl, Nat.le_of_ble_eq_true rfl⟩) rfl hl.1 rfl (Nat.le_of_ble_eq_true rfl) dX10_init_1612 ⟨Nat.le_of_ble_eq_true rfl, Nat.le_of_ble_eq_true rfl⟩) hW (fun L_602 h_603 H locs p_605 hW => ?_)
  obtain ⟨hs, f_606⟩ := p_605
  have hs : hx_S P_tb [(10, 14), (10, 16), (10, 18)] L1 h_598 L_602 h_603 := hs
  have f_606 : h_603.2.1 y 14 = _ := f_606
  have f_5 := (hs.o gy trivial rfl).2.trans f_5
  have f_10 := (hs.o gy trivial rfl).2.trans f_10
  have f_15 := (hs.o gy trivial rfl).2.trans f_15
  have f_20 := (hs.o gy trivial rfl).2.trans f_20
  have f_25 := (hs.o gy trivial rfl).2.trans f_25
  have f_30 := (hs.o gy trivial rfl).2.trans f_30
  have f_35 := (hs.o gy trivial rfl).2.trans f_35
  have f_225 := (hs.o gy trivial rfl).2.trans f_225
  have f_230 := (hs.o gy trivial rfl).2.trans f_230
  have f_235 := (hs.o gy trivial rfl).2.trans f_235
  have f_240 := (hs.o gy trivial rfl).2.trans f_240
  have f_245 := (hs.o gy trivial rfl).2.trans f_245
  have f_250 := (hs.o gy trivial rfl).2.trans f_250
  have f_475 := (hs.o gy trivial rfl).2.trans f_475
  have f_505 := (hs.o gy trivial rfl).2.trans f_505
  have fa_600 : ∀ j, j < 13 → _ = P_w1 j := fun j hj => (hs.a gq_7 rfl j).1.trans (fa_600 j hj)
  have hM := hM.tr (hs.mono (by decide))
  have gy := gy.S hs
  have gq_2 := gq_2.S hs
  have gq_7 := gq_7.S hs
  have gq_12 := gq_12.S hs
  have gq_17 := gq_17.S hs
  have gq_22 := gq_22.S hs
  have gq_27 := gq_27.S hs
  have gq_32 := gq_32.S hs
  have gq_222 := gq_222.S hs
  have gq_227 := gq_227.S hs
  have gq_232 := gq_232.S hs
  have gq_237 := gq_237.S hs
  have gq_242 := gq_242.S hs
  have gq_247 := gq_247.S hs
  have gq_472 := gq_472.S hs
  have gq_502 := gq_502.S hs
  refine lv_aload_n hx hb dX10_init_1615 rfl (lv_at hl 1 rfl) ?_
  refine hx_gov (hx_runV (As := []) (rest := []) ⟨hx, hb, hml, hown, hts⟩ hW gy td_10 (T := TX10) (N := 98) rfl (c_X10_withoutProof l dC dI dA L_602 h_603 H.size y gy f_606 q_32 gq_32 f_35) (cwV 0 hts (hx_gV kw_1129 kw_1126 kw_1128 kw_49 kw_103) rfl rfl rfl (by decide +kernel) ⟨Nat.le_of_ble_eq_true rfl, Nat.le_of_ble_eq_true rfl⟩) rfl hl.1 rfl (Nat.le_of_ble_eq_true rfl) dX10_init_1616 ⟨Nat.le_of_ble_eq_true rfl, Nat.le_of_ble_eq_true rfl⟩) hW (fun L_607 h_608 H locs p_610 hW => ?_)
  obtain ⟨hs, f_611⟩ := p_610
  have hs : hx_S P_tb [(10, 14), (55, 0)] L_602 h_603 L_607 h_608 := hs
  have f_611 : h_608.2.1 y 14 = _ := f_611
  have f_5 := (hs.o gy trivial rfl).2.trans f_5
  have f_10 := (hs.o gy trivial rfl).2.trans f_10
  have f_15 := (hs.o gy trivial rfl).2.trans f_15
  have f_20 := (hs.o gy trivial rfl).2.trans f_20
  have f_25 := (hs.o gy trivial rfl).2.trans f_25
  have f_30 := (hs.o gy trivial rfl).2.trans f_30
  have f_35 := (hs.o gy trivial rfl).2.trans f_35
  have f_225 := (hs.o gy trivial rfl).2.trans f_225
  have f_230 := (hs.o gy trivial rfl).2.trans f_230
  have f_235 := (hs.o gy trivial rfl).2.trans f_235
  have f_240 := (hs.o gy trivial rfl).2.trans f_240
  have f_245 := (hs.o gy trivial rfl).2.trans f_245
  have f_250 := (hs.o gy trivial rfl).2.trans f_250
  have f_475 := (hs.o gy trivial rfl).2.trans f_475
  have f_505 := (hs.o gy trivial rfl).2.trans f_505
  have fa_600 : ∀ j, j < 13 → _ = P_w1 j := fun j hj => (hs.a gq_7 rfl j).1.trans (fa_600 j hj)
  have hM := hM.tr (hs.mono (by decide))
  have gy := gy.S hs
  have gq_2 := gq_2.S hs
  have gq_7 := gq_7.S hs
  have gq_12 := gq_12.S hs
  have gq_17 := gq_17.S hs
  have gq_22 := gq_22.S hs
  have gq_27 := gq_27.S hs
  have gq_32 := gq_32.S hs
  have gq_222 := gq_222.S hs
  have gq_227 := gq_227.S hs
  have gq_232 := gq_232.S hs
  have gq_237 := gq_237.S hs
  have gq_242 := gq_242.S hs
  have gq_247 := gq_247.S hs
  have gq_472 := gq_472.S hs
  have gq_502 := gq_502.S hs
  refine lv_aload_n hx hb dX10_init_1619 rfl (lv_at hl 1 rfl) ?_
  refine lv_iconst (v := 0) hx hb dX10_init_1620 (by decide) ?_
  refine hx_gov (hx_runV (As := [.int (0 : Int32)]) (rest := []) ⟨hx, hb, hml, hown, hts⟩ hW gy td_10 (T := TX10) (N := 98) rfl (c_X10_keepsProof_0 l dC dI dA L_607 h_608 H.size y gy f_611 q_32 gq_32 f_35 q_12 gq_12 f_15 q_17 gq_17 f_20) (cwV 1 hts (hx_gV kw_1142 kw_1139 kw_1141 kw_51 kw_103) rfl rfl rfl (by decide +kernel) ⟨Nat.le_of_ble_eq_true rfl, Nat.le_of_ble_eq_true rfl⟩) rfl hl.1 rfl (Nat.le_of_ble_eq_true rfl) dX10_init_1621 ⟨Nat.le_of_ble_eq_true rfl, Nat.le_of_ble_eq_true rfl⟩) hW (fun L_612 h_613 H locs p_615 hW => ?_)
  have hs : hx_S P_tb [(51, 0), (52, 0)] L_607 h_608 L_612 h_613 := p_615
  have f_5 := (hs.o gy trivial rfl).2.trans f_5
  have f_10 := (hs.o gy trivial rfl).2.trans f_10
  have f_15 := (hs.o gy trivial rfl).2.trans f_15
  have f_20 := (hs.o gy trivial rfl).2.trans f_20
  have f_25 := (hs.o gy trivial rfl).2.trans f_25
  have f_30 := (hs.o gy trivial rfl).2.trans f_30
  have f_35 := (hs.o gy trivial rfl).2.trans f_35
  have f_225 := (hs.o gy trivial rfl).2.trans f_225
  have f_230 := (hs.o gy trivial rfl).2.trans f_230
  have f_235 := (hs.o gy trivial rfl).2.trans f_235
  have f_240 := (hs.o gy trivial rfl).2.trans f_240
  have f_245 := (hs.o gy trivial rfl).2.trans f_245
  have f_250 := (hs.o gy trivial rfl).2.trans f_250
  have f_475 := (hs.o gy trivial rfl).2.trans f_475
  have f_505 := (hs.o gy trivial rfl).2.trans f_505
  have f_611 := (hs.o gy trivial rfl).1.trans f_611
  have fa_600 : ∀ j, j < 13 → _ = P_w1 j := fun j hj => (hs.a gq_7 rfl j).1.trans (fa_600 j hj)
  have hM := hM.tr (hs.mono (by decide))
  have gy := gy.S hs
  have gq_2 := gq_2.S hs
  have gq_7 := gq_7.S hs
  have gq_12 := gq_12.S hs
  have gq_17 := gq_17.S hs
  have gq_22 := gq_22.S hs
  have gq_27 := gq_27.S hs
  have gq_32 := gq_32.S hs
  have gq_222 := gq_222.S hs
  have gq_227 := gq_227.S hs
  have gq_232 := gq_232.S hs
  have gq_237 := gq_237.S hs
  have gq_242 := gq_242.S hs
  have gq_247 := gq_247.S hs
  have gq_472 := gq_472.S hs
  have gq_502 := gq_502.S hs
  refine W.widen (k := 67) (n := 15340) (Nat.le_of_ble_eq_true rfl) (Nat.le_of_ble_eq_true rfl) ?_
  exact sg_X10_init_31 l dC dI dA L h sz y q_2 q_7 q_12 q_17 q_22 q_27 q_32 q_222 q_227 q_232 q_237 q_242 q_247 q_472 q_502 hx hb hml hr hlk hts hown hin hsz L_612 h_613 _ _ ls hW hM f_5 f_10 f_15 f_20 f_25 f_30 f_35 f_225 f_230 f_235 f_240 f_245 f_250 f_475 f_505 f_611 fa_600 gy gq_2 gq_7 gq_12 gq_17 gq_22 gq_27 gq_32 gq_222 gq_227 gq_232 gq_237 gq_242 gq_247 gq_472 gq_502 hl

set_option maxHeartbeats 4000000 in
set_option maxRecDepth 100000 in
theorem sg_X10_init_29 (l : Launch) (dC : Nat → ClassId) (dI : Nat → Nat → Nat) (dA : Nat → ClassId) (L : List Nat) (h : hx_h) (sz : Nat) (y : Nat) (q_2 q_7 q_12 q_17 q_22 q_27 q_32 q_222 q_227 q_232 q_237 q_242 q_247 q_472 q_502 : Nat) {p : Program} {e : Env} {s : State} {m : MethodId} {below : List Frame} {meth : Method} {c : Code} (hx : p.tables.exec = Jvm.exec) (hb : c.code = cX10_init) (hml : c.maxLocals = 2) (hr : meth.sig.returnType = none) (hlk : meth.locks = false) (hts : ∀ w ∈ hx_all, w.before ([.ref y] : List Value).toArray s = true) (hown : s.vm.findClass "SmallCourtModel" = some m.cls) (hin : meth.name = "<init>") (hsz : s.heap.size = sz) (L1 : List Nat) (hl1 : hx_h) (H : Heap) (locs : List Loc) (ls : Array Slot) (hW : hx_W P_tb (P_ty dA) (dC, dI) vwCl (hx_A L sz) s.heap L1 hl1 s H locs) (hM : hx_S P_tb [(10, 2), (10, 3), (10, 4), (10, 5), (10, 6), (10, 12), (10, 14), (10, 15), (10, 16), (10, 17), (10, 18), (10, 19), (10, 21), (10, 22), (10, 23), (10, 24), (10, 25), (10, 26), (10, 27), (10, 28), (10, 30), (10, 31), (10, 32), (10, 33), (10, 34), (10, 35), (10, 37), (10, 38), (10, 39), (10, 40), (10, 41), (10, 42), (10, 43), (10, 44), (10, 45), (10, 46), (10, 47), (10, 48), (10, 49), (10, 50), (10, 51), (10, 52), (10, 53), (10, 54), (10, 55), (10, 56), (10, 58), (10, 60), (10, 61), (10, 62), (10, 63), (10, 64), (10, 65), (10, 66), (10, 73), (10, 74), (10, 76), (10, 77), (10, 78), (10, 79), (10, 80), (10, 81), (10, 82), (10, 85), (10, 88), (10, 89), (10, 91), (10, 93), (10, 94), (10, 97), (50, 0), (51, 0), (52, 0), (55, 0), (57, 0)] L h L1 hl1) (f_5 : hl1.2.2 y 2 = some q_2) (f_10 : hl1.2.2 y 3 = some q_7) (f_15 : hl1.2.2 y 4 = some q_12) (f_20 : hl1.2.2 y 5 = some q_17) (f_25 : hl1.2.2 y 6 = some q_22) (f_30 : hl1.2.2 y 12 = some q_27) (f_35 : hl1.2.2 y 15 = some q_32) (f_225 : hl1.2.2 y 21 = some q_222) (f_230 : hl1.2.2 y 22 = some q_227) (f_235 : hl1.2.2 y 23 = some q_232) (f_240 : hl1.2.2 y 24 = some q_237) (f_245 : hl1.2.2 y 25 = some q_242) (f_250 : hl1.2.2 y 26 = some q_247) (f_475 : hl1.2.2 y 82 = some q_472) (f_505 : hl1.2.2 y 94 = some q_502) (f_515 : hl1.2.1 q_7 (0 : Int32).toNatClampNeg = (480 : Int32)) (f_522 : hl1.2.1 q_7 (1 : Int32).toNatClampNeg = (30 : Int32)) (f_529 : hl1.2.1 q_7 (2 : Int32).toNatClampNeg = (12 : Int32)) (f_536 : hl1.2.1 q_7 (3 : Int32).toNatClampNeg = (60 : Int32)) (f_543 : hl1.2.1 q_7 (4 : Int32).toNatClampNeg = (2 : Int32)) (f_550 : hl1.2.1 q_7 (5 : Int32).toNatClampNeg = (4 : Int32)) (f_557 : hl1.2.1 q_7 (6 : Int32).toNatClampNeg = (1 : Int32)) (f_564 : hl1.2.1 q_7 (7 : Int32).toNatClampNeg = (40 : Int32)) (f_571 : hl1.2.1 q_7 (8 : Int32).toNatClampNeg = (21 : Int32))  (gy : hx_g L1 hl1 y 10) (gq_2 : hx_g L1 hl1 q_2 49) (gq_7 : hx_g L1 hl1 q_7 50) (gq_12 : hx_g L1 hl1 q_12 51) (gq_17 : hx_g L1 hl1 q_17 52) (gq_22 : hx_g L1 hl1 q_22 53) (gq_27 : hx_g L1 hl1 q_27 54) (gq_32 : hx_g L1 hl1 q_32 55) (gq_222 : hx_g L1 hl1 q_222 58) (gq_227 : hx_g L1 hl1 q_227 59) (gq_232 : hx_g L1 hl1 q_232 60) (gq_237 : hx_g L1 hl1 q_237 61) (gq_242 : hx_g L1 hl1 q_242 62) (gq_247 : hx_g L1 hl1 q_247 63) (gq_472 : hx_g L1 hl1 q_472 108) (gq_502 : hx_g L1 hl1 q_502 114) (hl : lv_has ls 2 [(1, .int (9 : Int32)), (0, .ref y)]) : W p l e ({ frames := 2, cells := 67, slots := 15340, locals := 42 }) s m ([.ref y] : List Value).toArray below meth c H locs 67 15340 (MQ below (va_Qv (fun (u : List Nat × hx_h) => hx_S P_tb [(10, 2), (10, 3), (10, 4), (10, 5), (10, 6), (10, 12), (10, 14), (10, 15), (10, 16), (10, 17), (10, 18), (10, 19), (10, 21), (10, 22), (10, 23), (10, 24), (10, 25), (10, 26), (10, 27), (10, 28), (10, 30), (10, 31), (10, 32), (10, 33), (10, 34), (10, 35), (10, 37), (10, 38), (10, 39), (10, 40), (10, 41), (10, 42), (10, 43), (10, 44), (10, 45), (10, 46), (10, 47), (10, 48), (10, 49), (10, 50), (10, 51), (10, 52), (10, 53), (10, 54), (10, 55), (10, 56), (10, 58), (10, 60), (10, 61), (10, 62), (10, 63), (10, 64), (10, 65), (10, 66), (10, 73), (10, 74), (10, 76), (10, 77), (10, 78), (10, 79), (10, 80), (10, 81), (10, 82), (10, 85), (10, 88), (10, 89), (10, 91), (10, 93), (10, 94), (10, 97), (50, 0), (51, 0), (52, 0), (55, 0), (57, 0)] L h u.1 u.2 ∧ (∃ q, u.2.2.2 y 2 = some q ∧ hx_g u.1 u.2 q 49) ∧ (∃ q, u.2.2.2 y 3 = some q ∧ hx_g u.1 u.2 q 50 ∧ (∀ j, j < 13 → u.2.2.1 q j = P_w1 j)) ∧ (∃ q, u.2.2.2 y 4 = some q ∧ hx_g u.1 u.2 q 51) ∧ (∃ q, u.2.2.2 y 5 = some q ∧ hx_g u.1 u.2 q 52) ∧ (∃ q, u.2.2.2 y 6 = some q ∧ hx_g u.1 u.2 q 53) ∧ (∃ q, u.2.2.2 y 12 = some q ∧ hx_g u.1 u.2 q 54) ∧ (∃ q, u.2.2.2 y 15 = some q ∧ hx_g u.1 u.2 q 55) ∧ (∃ q, u.2.2.2 y 21 = some q ∧ hx_g u.1 u.2 q 58) ∧ (∃ q, u.2.2.2 y 22 = some q ∧ hx_g u.1 u.2 q 59) ∧ (∃ q, u.2.2.2 y 23 = some q ∧ hx_g u.1 u.2 q 60) ∧ (∃ q, u.2.2.2 y 24 = some q ∧ hx_g u.1 u.2 q 61) ∧ (∃ q, u.2.2.2 y 25 = some q ∧ hx_g u.1 u.2 q 62) ∧ (∃ q, u.2.2.2 y 26 = some q ∧ hx_g u.1 u.2 q 63) ∧ (∃ q, u.2.2.2 y 82 = some q ∧ hx_g u.1 u.2 q 108) ∧ (∃ q, u.2.2.2 y 94 = some q ∧ hx_g u.1 u.2 q 114)) (hx_E P_tb (P_ty dA) (dC, dI) vwCl (hx_A L sz)) (hx_A L sz)) ([.ref y] : List Value).toArray s 67 15340 (hx_A L sz)) (F0 m 1589 ls []) := by
  refine lv_iload_n hx hb dX10_init_1589 rfl (lv_at hl 0 rfl) ?_
  refine lv_bipush (v := 13) hx hb dX10_init_1590 (by decide) ?_
  refine hb_icmp_ge (zx := 9) (zy := 13) (tgt := 1611) hx hb (by decide) (by decide) dX10_init_1592 (by decide) (fun c_572 => absurd c_572 (by decide)) (fun c_572 => ?_)
  refine lv_aload_n hx hb dX10_init_1595 rfl (lv_at hl 1 rfl) ?_
  refine hk_getr hx hb hts hC_10 hown hW gy td_10 3 (by decide) rfl kw_1146 ⟨rfl, rfl, rfl⟩ f_10 dX10_init_1596 ?_
  refine lv_iload_n hx hb dX10_init_1599 rfl (lv_at hl 0 rfl) ?_
  refine lv_iload_n hx hb dX10_init_1600 rfl (lv_at hl 0 rfl) ?_
  refine hx_goi (hx_runS (As := [.int (9 : Int32)]) (rest := [.int (9 : Int32), .ref q_7]) ⟨hx, hb, hml, hown, hts⟩ hW (c_X10_without_9 l dC dI dA L1 hl1 H.size ) (va_cwS 1 hts (hx_gS kw_1121 kw_1119 kw_1120 kw_103) rfl rfl rfl (by decide +kernel) ⟨Nat.le_of_ble_eq_true rfl, Nat.le_of_ble_eq_true rfl⟩) rfl hl.1 rfl (Nat.le_of_ble_eq_true rfl) dX10_init_1601 ⟨Nat.le_of_ble_eq_true rfl, Nat.le_of_ble_eq_true rfl⟩) hW (fun r_575 L_573 h_574 H locs p_576 hW => ?_)
  obtain ⟨rfl, eu⟩ := p_576
  cases eu
  refine hk_iast hx hb hW gq_7 td_50 rfl (by decide) rfl dX10_init_1604 (fun H locs h_577 eh_577 hW hs => ?_)
  have f_5 := (hs.o gy trivial rfl).2.trans f_5
  have f_10 := (hs.o gy trivial rfl).2.trans f_10
  have f_15 := (hs.o gy trivial rfl).2.trans f_15
  have f_20 := (hs.o gy trivial rfl).2.trans f_20
  have f_25 := (hs.o gy trivial rfl).2.trans f_25
  have f_30 := (hs.o gy trivial rfl).2.trans f_30
  have f_35 := (hs.o gy trivial rfl).2.trans f_35
  have f_225 := (hs.o gy trivial rfl).2.trans f_225
  have f_230 := (hs.o gy trivial rfl).2.trans f_230
  have f_235 := (hs.o gy trivial rfl).2.trans f_235
  have f_240 := (hs.o gy trivial rfl).2.trans f_240
  have f_245 := (hs.o gy trivial rfl).2.trans f_245
  have f_250 := (hs.o gy trivial rfl).2.trans f_250
  have f_475 := (hs.o gy trivial rfl).2.trans f_475
  have f_505 := (hs.o gy trivial rfl).2.trans f_505
  have hM := hM.tr (hs.mono (by decide))
  have gy := gy.S hs
  have gq_2 := gq_2.S hs
  have gq_7 := gq_7.S hs
  have gq_12 := gq_12.S hs
  have gq_17 := gq_17.S hs
  have gq_22 := gq_22.S hs
  have gq_27 := gq_27.S hs
  have gq_32 := gq_32.S hs
  have gq_222 := gq_222.S hs
  have gq_227 := gq_227.S hs
  have gq_232 := gq_232.S hs
  have gq_237 := gq_237.S hs
  have gq_242 := gq_242.S hs
  have gq_247 := gq_247.S hs
  have gq_472 := gq_472.S hs
  have gq_502 := gq_502.S hs
  have f_515 : h_577.2.1 q_7 (0 : Int32).toNatClampNeg = (480 : Int32) := by rw [eh_577]; exact (hx_pi_ne _ _ (fun z => absurd z.2 (by decide))).trans f_515
  have f_522 : h_577.2.1 q_7 (1 : Int32).toNatClampNeg = (30 : Int32) := by rw [eh_577]; exact (hx_pi_ne _ _ (fun z => absurd z.2 (by decide))).trans f_522
  have f_529 : h_577.2.1 q_7 (2 : Int32).toNatClampNeg = (12 : Int32) := by rw [eh_577]; exact (hx_pi_ne _ _ (fun z => absurd z.2 (by decide))).trans f_529
  have f_536 : h_577.2.1 q_7 (3 : Int32).toNatClampNeg = (60 : Int32) := by rw [eh_577]; exact (hx_pi_ne _ _ (fun z => absurd z.2 (by decide))).trans f_536
  have f_543 : h_577.2.1 q_7 (4 : Int32).toNatClampNeg = (2 : Int32) := by rw [eh_577]; exact (hx_pi_ne _ _ (fun z => absurd z.2 (by decide))).trans f_543
  have f_550 : h_577.2.1 q_7 (5 : Int32).toNatClampNeg = (4 : Int32) := by rw [eh_577]; exact (hx_pi_ne _ _ (fun z => absurd z.2 (by decide))).trans f_550
  have f_557 : h_577.2.1 q_7 (6 : Int32).toNatClampNeg = (1 : Int32) := by rw [eh_577]; exact (hx_pi_ne _ _ (fun z => absurd z.2 (by decide))).trans f_557
  have f_564 : h_577.2.1 q_7 (7 : Int32).toNatClampNeg = (40 : Int32) := by rw [eh_577]; exact (hx_pi_ne _ _ (fun z => absurd z.2 (by decide))).trans f_564
  have f_571 : h_577.2.1 q_7 (8 : Int32).toNatClampNeg = (21 : Int32) := by rw [eh_577]; exact (hx_pi_ne _ _ (fun z => absurd z.2 (by decide))).trans f_571
  have f_578 : h_577.2.1 q_7 (9 : Int32).toNatClampNeg = (0 : Int32) := by rw [eh_577]; exact hx_pi_at _ _ _ _
  refine lv_iinc (v := 10) (lv' := [(1, .int (10 : Int32)), (0, .ref y)]) hx hb dX10_init_1605 hl (k := 0) rfl (by decide) (by decide) rfl (fun ls hl => ?_)
  refine lv_goto (tgt := 1589) hx hb dX10_init_1608 (by decide) ?_
  refine lv_iload_n hx hb dX10_init_1589 rfl (lv_at hl 0 rfl) ?_
  refine lv_bipush (v := 13) hx hb dX10_init_1590 (by decide) ?_
  refine hb_icmp_ge (zx := 10) (zy := 13) (tgt := 1611) hx hb (by decide) (by decide) dX10_init_1592 (by decide) (fun c_579 => absurd c_579 (by decide)) (fun c_579 => ?_)
  refine lv_aload_n hx hb dX10_init_1595 rfl (lv_at hl 1 rfl) ?_
  refine hk_getr hx hb hts hC_10 hown hW gy td_10 3 (by decide) rfl kw_1146 ⟨rfl, rfl, rfl⟩ f_10 dX10_init_1596 ?_
  refine lv_iload_n hx hb dX10_init_1599 rfl (lv_at hl 0 rfl) ?_
  refine lv_iload_n hx hb dX10_init_1600 rfl (lv_at hl 0 rfl) ?_
  refine hx_goi (hx_runS (As := [.int (10 : Int32)]) (rest := [.int (10 : Int32), .ref q_7]) ⟨hx, hb, hml, hown, hts⟩ hW (c_X10_without_10 l dC dI dA L1 h_577 H.size ) (va_cwS 1 hts (hx_gS kw_1121 kw_1119 kw_1120 kw_103) rfl rfl rfl (by decide +kernel) ⟨Nat.le_of_ble_eq_true rfl, Nat.le_of_ble_eq_true rfl⟩) rfl hl.1 rfl (Nat.le_of_ble_eq_true rfl) dX10_init_1601 ⟨Nat.le_of_ble_eq_true rfl, Nat.le_of_ble_eq_true rfl⟩) hW (fun r_582 L_580 h_581 H locs p_583 hW => ?_)
  obtain ⟨rfl, eu⟩ := p_583
  cases eu
  refine hk_iast hx hb hW gq_7 td_50 rfl (by decide) rfl dX10_init_1604 (fun H locs h_584 eh_584 hW hs => ?_)
  have f_5 := (hs.o gy trivial rfl).2.trans f_5
  have f_10 := (hs.o gy trivial rfl).2.trans f_10
  have f_15 := (hs.o gy trivial rfl).2.trans f_15
  have f_20 := (hs.o gy trivial rfl).2.trans f_20
  have f_25 := (hs.o gy trivial rfl).2.trans f_25
  have f_30 := (hs.o gy trivial rfl).2.trans f_30
  have f_35 := (hs.o gy trivial rfl).2.trans f_35
  have f_225 := (hs.o gy trivial rfl).2.trans f_225
  have f_230 := (hs.o gy trivial rfl).2.trans f_230
  have f_235 := (hs.o gy trivial rfl).2.trans f_235
  have f_240 := (hs.o gy trivial rfl).2.trans f_240
  have f_245 := (hs.o gy trivial rfl).2.trans f_245
  have f_250 := (hs.o gy trivial rfl).2.trans f_250
  have f_475 := (hs.o gy trivial rfl).2.trans f_475
  have f_505 := (hs.o gy trivial rfl).2.trans f_505
  have hM := hM.tr (hs.mono (by decide))
  have gy := gy.S hs
  have gq_2 := gq_2.S hs
  have gq_7 := gq_7.S hs
  have gq_12 := gq_12.S hs
  have gq_17 := gq_17.S hs
  have gq_22 := gq_22.S hs
  have gq_27 := gq_27.S hs
  have gq_32 := gq_32.S hs
  have gq_222 := gq_222.S hs
  have gq_227 := gq_227.S hs
  have gq_232 := gq_232.S hs
  have gq_237 := gq_237.S hs
  have gq_242 := gq_242.S hs
  have gq_247 := gq_247.S hs
  have gq_472 := gq_472.S hs
  have gq_502 := gq_502.S hs
  have f_515 : h_584.2.1 q_7 (0 : Int32).toNatClampNeg = (480 : Int32) := by rw [eh_584]; exact (hx_pi_ne _ _ (fun z => absurd z.2 (by decide))).trans f_515
  have f_522 : h_584.2.1 q_7 (1 : Int32).toNatClampNeg = (30 : Int32) := by rw [eh_584]; exact (hx_pi_ne _ _ (fun z => absurd z.2 (by decide))).trans f_522
  have f_529 : h_584.2.1 q_7 (2 : Int32).toNatClampNeg = (12 : Int32) := by rw [eh_584]; exact (hx_pi_ne _ _ (fun z => absurd z.2 (by decide))).trans f_529
  have f_536 : h_584.2.1 q_7 (3 : Int32).toNatClampNeg = (60 : Int32) := by rw [eh_584]; exact (hx_pi_ne _ _ (fun z => absurd z.2 (by decide))).trans f_536
  have f_543 : h_584.2.1 q_7 (4 : Int32).toNatClampNeg = (2 : Int32) := by rw [eh_584]; exact (hx_pi_ne _ _ (fun z => absurd z.2 (by decide))).trans f_543
  have f_550 : h_584.2.1 q_7 (5 : Int32).toNatClampNeg = (4 : Int32) := by rw [eh_584]; exact (hx_pi_ne _ _ (fun z => absurd z.2 (by decide))).trans f_550
  have f_557 : h_584.2.1 q_7 (6 : Int32).toNatClampNeg = (1 : Int32) := by rw [eh_584]; exact (hx_pi_ne _ _ (fun z => absurd z.2 (by decide))).trans f_557
  have f_564 : h_584.2.1 q_7 (7 : Int32).toNatClampNeg = (40 : Int32) := by rw [eh_584]; exact (hx_pi_ne _ _ (fun z => absurd z.2 (by decide))).trans f_564
  have f_571 : h_584.2.1 q_7 (8 : Int32).toNatClampNeg = (21 : Int32) := by rw [eh_584]; exact (hx_pi_ne _ _ (fun z => absurd z.2 (by decide))).trans f_571
  have f_578 : h_584.2.1 q_7 (9 : Int32).toNatClampNeg = (0 : Int32) := by rw [eh_584]; exact (hx_pi_ne _ _ (fun z => absurd z.2 (by decide))).trans f_578
  have f_585 : h_584.2.1 q_7 (10 : Int32).toNatClampNeg = (0 : Int32) := by rw [eh_584]; exact hx_pi_at _ _ _ _
  refine lv_iinc (v := 11) (lv' := [(1, .int (11 : Int32)), (0, .ref y)]) hx hb dX10_init_1605 hl (k := 0) rfl (by decide) (by decide) rfl (fun ls hl => ?_)
  refine lv_goto (tgt := 1589) hx hb dX10_init_1608 (by decide) ?_
  refine lv_iload_n hx hb dX10_init_1589 rfl (lv_at hl 0 rfl) ?_
  refine lv_bipush (v := 13) hx hb dX10_init_1590 (by decide) ?_
  refine hb_icmp_ge (zx := 11) (zy := 13) (tgt := 1611) hx hb (by decide) (by decide) dX10_init_1592 (by decide) (fun c_586 => absurd c_586 (by decide)) (fun c_586 => ?_)
  refine lv_aload_n hx hb dX10_init_1595 rfl (lv_at hl 1 rfl) ?_
  refine hk_getr hx hb hts hC_10 hown hW gy td_10 3 (by decide) rfl kw_1146 ⟨rfl, rfl, rfl⟩ f_10 dX10_init_1596 ?_
  refine lv_iload_n hx hb dX10_init_1599 rfl (lv_at hl 0 rfl) ?_
  refine lv_iload_n hx hb dX10_init_1600 rfl (lv_at hl 0 rfl) ?_
  refine hx_goi (hx_runS (As := [.int (11 : Int32)]) (rest := [.int (11 : Int32), .ref q_7]) ⟨hx, hb, hml, hown, hts⟩ hW (c_X10_without_11 l dC dI dA L1 h_584 H.size ) (va_cwS 1 hts (hx_gS kw_1121 kw_1119 kw_1120 kw_103) rfl rfl rfl (by decide +kernel) ⟨Nat.le_of_ble_eq_true rfl, Nat.le_of_ble_eq_true rfl⟩) rfl hl.1 rfl (Nat.le_of_ble_eq_true rfl) dX10_init_1601 ⟨Nat.le_of_ble_eq_true rfl, Nat.le_of_ble_eq_true rfl⟩) hW (fun r_589 L_587 h_588 H locs p_590 hW => ?_)
  obtain ⟨rfl, eu⟩ := p_590
  cases eu
  refine hk_iast hx hb hW gq_7 td_50 rfl (by decide) rfl dX10_init_1604 (fun H locs h_591 eh_591 hW hs => ?_)
  have f_5 := (hs.o gy trivial rfl).2.trans f_5
  have f_10 := (hs.o gy trivial rfl).2.trans f_10
  have f_15 := (hs.o gy trivial rfl).2.trans f_15
  have f_20 := (hs.o gy trivial rfl).2.trans f_20
  have f_25 := (hs.o gy trivial rfl).2.trans f_25
  have f_30 := (hs.o gy trivial rfl).2.trans f_30
  have f_35 := (hs.o gy trivial rfl).2.trans f_35
  have f_225 := (hs.o gy trivial rfl).2.trans f_225
  have f_230 := (hs.o gy trivial rfl).2.trans f_230
  have f_235 := (hs.o gy trivial rfl).2.trans f_235
  have f_240 := (hs.o gy trivial rfl).2.trans f_240
  have f_245 := (hs.o gy trivial rfl).2.trans f_245
  have f_250 := (hs.o gy trivial rfl).2.trans f_250
  have f_475 := (hs.o gy trivial rfl).2.trans f_475
  have f_505 := (hs.o gy trivial rfl).2.trans f_505
  have hM := hM.tr (hs.mono (by decide))
  have gy := gy.S hs
  have gq_2 := gq_2.S hs
  have gq_7 := gq_7.S hs
  have gq_12 := gq_12.S hs
  have gq_17 := gq_17.S hs
  have gq_22 := gq_22.S hs
  have gq_27 := gq_27.S hs
  have gq_32 := gq_32.S hs
  have gq_222 := gq_222.S hs
  have gq_227 := gq_227.S hs
  have gq_232 := gq_232.S hs
  have gq_237 := gq_237.S hs
  have gq_242 := gq_242.S hs
  have gq_247 := gq_247.S hs
  have gq_472 := gq_472.S hs
  have gq_502 := gq_502.S hs
  have f_515 : h_591.2.1 q_7 (0 : Int32).toNatClampNeg = (480 : Int32) := by rw [eh_591]; exact (hx_pi_ne _ _ (fun z => absurd z.2 (by decide))).trans f_515
  have f_522 : h_591.2.1 q_7 (1 : Int32).toNatClampNeg = (30 : Int32) := by rw [eh_591]; exact (hx_pi_ne _ _ (fun z => absurd z.2 (by decide))).trans f_522
  have f_529 : h_591.2.1 q_7 (2 : Int32).toNatClampNeg = (12 : Int32) := by rw [eh_591]; exact (hx_pi_ne _ _ (fun z => absurd z.2 (by decide))).trans f_529
  have f_536 : h_591.2.1 q_7 (3 : Int32).toNatClampNeg = (60 : Int32) := by rw [eh_591]; exact (hx_pi_ne _ _ (fun z => absurd z.2 (by decide))).trans f_536
  have f_543 : h_591.2.1 q_7 (4 : Int32).toNatClampNeg = (2 : Int32) := by rw [eh_591]; exact (hx_pi_ne _ _ (fun z => absurd z.2 (by decide))).trans f_543
  have f_550 : h_591.2.1 q_7 (5 : Int32).toNatClampNeg = (4 : Int32) := by rw [eh_591]; exact (hx_pi_ne _ _ (fun z => absurd z.2 (by decide))).trans f_550
  have f_557 : h_591.2.1 q_7 (6 : Int32).toNatClampNeg = (1 : Int32) := by rw [eh_591]; exact (hx_pi_ne _ _ (fun z => absurd z.2 (by decide))).trans f_557
  have f_564 : h_591.2.1 q_7 (7 : Int32).toNatClampNeg = (40 : Int32) := by rw [eh_591]; exact (hx_pi_ne _ _ (fun z => absurd z.2 (by decide))).trans f_564
  have f_571 : h_591.2.1 q_7 (8 : Int32).toNatClampNeg = (21 : Int32) := by rw [eh_591]; exact (hx_pi_ne _ _ (fun z => absurd z.2 (by decide))).trans f_571
  have f_578 : h_591.2.1 q_7 (9 : Int32).toNatClampNeg = (0 : Int32) := by rw [eh_591]; exact (hx_pi_ne _ _ (fun z => absurd z.2 (by decide))).trans f_578
  have f_585 : h_591.2.1 q_7 (10 : Int32).toNatClampNeg = (0 : Int32) := by rw [eh_591]; exact (hx_pi_ne _ _ (fun z => absurd z.2 (by decide))).trans f_585
  have f_592 : h_591.2.1 q_7 (11 : Int32).toNatClampNeg = (0 : Int32) := by rw [eh_591]; exact hx_pi_at _ _ _ _
  refine W.widen (k := 67) (n := 15340) (Nat.le_of_ble_eq_true rfl) (Nat.le_of_ble_eq_true rfl) ?_
  exact sg_X10_init_30 l dC dI dA L h sz y q_2 q_7 q_12 q_17 q_22 q_27 q_32 q_222 q_227 q_232 q_237 q_242 q_247 q_472 q_502 hx hb hml hr hlk hts hown hin hsz L1 h_591 _ _ ls hW hM f_5 f_10 f_15 f_20 f_25 f_30 f_35 f_225 f_230 f_235 f_240 f_245 f_250 f_475 f_505 f_515 f_522 f_529 f_536 f_543 f_550 f_557 f_564 f_571 f_578 f_585 f_592  gy gq_2 gq_7 gq_12 gq_17 gq_22 gq_27 gq_32 gq_222 gq_227 gq_232 gq_237 gq_242 gq_247 gq_472 gq_502 hl

set_option maxHeartbeats 4000000 in
set_option maxRecDepth 100000 in
theorem sg_X10_init_28 (l : Launch) (dC : Nat → ClassId) (dI : Nat → Nat → Nat) (dA : Nat → ClassId) (L : List Nat) (h : hx_h) (sz : Nat) (y : Nat) (q_2 q_7 q_12 q_17 q_22 q_27 q_32 q_222 q_227 q_232 q_237 q_242 q_247 q_472 q_502 : Nat) {p : Program} {e : Env} {s : State} {m : MethodId} {below : List Frame} {meth : Method} {c : Code} (hx : p.tables.exec = Jvm.exec) (hb : c.code = cX10_init) (hml : c.maxLocals = 2) (hr : meth.sig.returnType = none) (hlk : meth.locks = false) (hts : ∀ w ∈ hx_all, w.before ([.ref y] : List Value).toArray s = true) (hown : s.vm.findClass "SmallCourtModel" = some m.cls) (hin : meth.name = "<init>") (hsz : s.heap.size = sz) (L1 : List Nat) (hl1 : hx_h) (H : Heap) (locs : List Loc) (ls : Array Slot) (hW : hx_W P_tb (P_ty dA) (dC, dI) vwCl (hx_A L sz) s.heap L1 hl1 s H locs) (hM : hx_S P_tb [(10, 2), (10, 3), (10, 4), (10, 5), (10, 6), (10, 12), (10, 14), (10, 15), (10, 16), (10, 17), (10, 18), (10, 19), (10, 21), (10, 22), (10, 23), (10, 24), (10, 25), (10, 26), (10, 27), (10, 28), (10, 30), (10, 31), (10, 32), (10, 33), (10, 34), (10, 35), (10, 37), (10, 38), (10, 39), (10, 40), (10, 41), (10, 42), (10, 43), (10, 44), (10, 45), (10, 46), (10, 47), (10, 48), (10, 49), (10, 50), (10, 51), (10, 52), (10, 53), (10, 54), (10, 55), (10, 56), (10, 58), (10, 60), (10, 61), (10, 62), (10, 63), (10, 64), (10, 65), (10, 66), (10, 73), (10, 74), (10, 76), (10, 77), (10, 78), (10, 79), (10, 80), (10, 81), (10, 82), (10, 85), (10, 88), (10, 89), (10, 91), (10, 93), (10, 94), (10, 97), (50, 0), (51, 0), (52, 0), (55, 0), (57, 0)] L h L1 hl1) (f_5 : hl1.2.2 y 2 = some q_2) (f_10 : hl1.2.2 y 3 = some q_7) (f_15 : hl1.2.2 y 4 = some q_12) (f_20 : hl1.2.2 y 5 = some q_17) (f_25 : hl1.2.2 y 6 = some q_22) (f_30 : hl1.2.2 y 12 = some q_27) (f_35 : hl1.2.2 y 15 = some q_32) (f_225 : hl1.2.2 y 21 = some q_222) (f_230 : hl1.2.2 y 22 = some q_227) (f_235 : hl1.2.2 y 23 = some q_232) (f_240 : hl1.2.2 y 24 = some q_237) (f_245 : hl1.2.2 y 25 = some q_242) (f_250 : hl1.2.2 y 26 = some q_247) (f_475 : hl1.2.2 y 82 = some q_472) (f_505 : hl1.2.2 y 94 = some q_502) (f_515 : hl1.2.1 q_7 (0 : Int32).toNatClampNeg = (480 : Int32)) (f_522 : hl1.2.1 q_7 (1 : Int32).toNatClampNeg = (30 : Int32)) (f_529 : hl1.2.1 q_7 (2 : Int32).toNatClampNeg = (12 : Int32)) (f_536 : hl1.2.1 q_7 (3 : Int32).toNatClampNeg = (60 : Int32)) (f_543 : hl1.2.1 q_7 (4 : Int32).toNatClampNeg = (2 : Int32)) (f_550 : hl1.2.1 q_7 (5 : Int32).toNatClampNeg = (4 : Int32))  (gy : hx_g L1 hl1 y 10) (gq_2 : hx_g L1 hl1 q_2 49) (gq_7 : hx_g L1 hl1 q_7 50) (gq_12 : hx_g L1 hl1 q_12 51) (gq_17 : hx_g L1 hl1 q_17 52) (gq_22 : hx_g L1 hl1 q_22 53) (gq_27 : hx_g L1 hl1 q_27 54) (gq_32 : hx_g L1 hl1 q_32 55) (gq_222 : hx_g L1 hl1 q_222 58) (gq_227 : hx_g L1 hl1 q_227 59) (gq_232 : hx_g L1 hl1 q_232 60) (gq_237 : hx_g L1 hl1 q_237 61) (gq_242 : hx_g L1 hl1 q_242 62) (gq_247 : hx_g L1 hl1 q_247 63) (gq_472 : hx_g L1 hl1 q_472 108) (gq_502 : hx_g L1 hl1 q_502 114) (hl : lv_has ls 2 [(1, .int (5 : Int32)), (0, .ref y)]) : W p l e ({ frames := 2, cells := 67, slots := 15340, locals := 42 }) s m ([.ref y] : List Value).toArray below meth c H locs 67 15340 (MQ below (va_Qv (fun (u : List Nat × hx_h) => hx_S P_tb [(10, 2), (10, 3), (10, 4), (10, 5), (10, 6), (10, 12), (10, 14), (10, 15), (10, 16), (10, 17), (10, 18), (10, 19), (10, 21), (10, 22), (10, 23), (10, 24), (10, 25), (10, 26), (10, 27), (10, 28), (10, 30), (10, 31), (10, 32), (10, 33), (10, 34), (10, 35), (10, 37), (10, 38), (10, 39), (10, 40), (10, 41), (10, 42), (10, 43), (10, 44), (10, 45), (10, 46), (10, 47), (10, 48), (10, 49), (10, 50), (10, 51), (10, 52), (10, 53), (10, 54), (10, 55), (10, 56), (10, 58), (10, 60), (10, 61), (10, 62), (10, 63), (10, 64), (10, 65), (10, 66), (10, 73), (10, 74), (10, 76), (10, 77), (10, 78), (10, 79), (10, 80), (10, 81), (10, 82), (10, 85), (10, 88), (10, 89), (10, 91), (10, 93), (10, 94), (10, 97), (50, 0), (51, 0), (52, 0), (55, 0), (57, 0)] L h u.1 u.2 ∧ (∃ q, u.2.2.2 y 2 = some q ∧ hx_g u.1 u.2 q 49) ∧ (∃ q, u.2.2.2 y 3 = some q ∧ hx_g u.1 u.2 q 50 ∧ (∀ j, j < 13 → u.2.2.1 q j = P_w1 j)) ∧ (∃ q, u.2.2.2 y 4 = some q ∧ hx_g u.1 u.2 q 51) ∧ (∃ q, u.2.2.2 y 5 = some q ∧ hx_g u.1 u.2 q 52) ∧ (∃ q, u.2.2.2 y 6 = some q ∧ hx_g u.1 u.2 q 53) ∧ (∃ q, u.2.2.2 y 12 = some q ∧ hx_g u.1 u.2 q 54) ∧ (∃ q, u.2.2.2 y 15 = some q ∧ hx_g u.1 u.2 q 55) ∧ (∃ q, u.2.2.2 y 21 = some q ∧ hx_g u.1 u.2 q 58) ∧ (∃ q, u.2.2.2 y 22 = some q ∧ hx_g u.1 u.2 q 59) ∧ (∃ q, u.2.2.2 y 23 = some q ∧ hx_g u.1 u.2 q 60) ∧ (∃ q, u.2.2.2 y 24 = some q ∧ hx_g u.1 u.2 q 61) ∧ (∃ q, u.2.2.2 y 25 = some q ∧ hx_g u.1 u.2 q 62) ∧ (∃ q, u.2.2.2 y 26 = some q ∧ hx_g u.1 u.2 q 63) ∧ (∃ q, u.2.2.2 y 82 = some q ∧ hx_g u.1 u.2 q 108) ∧ (∃ q, u.2.2.2 y 94 = some q ∧ hx_g u.1 u.2 q 114)) (hx_E P_tb (P_ty dA) (dC, dI) vwCl (hx_A L sz)) (hx_A L sz)) ([.ref y] : List Value).toArray s 67 15340 (hx_A L sz)) (F0 m 1605 ls []) := by
  refine lv_iinc (v := 6) (lv' := [(1, .int (6 : Int32)), (0, .ref y)]) hx hb dX10_init_1605 hl (k := 0) rfl (by decide) (by decide) rfl (fun ls hl => ?_)
  refine lv_goto (tgt := 1589) hx hb dX10_init_1608 (by decide) ?_
  refine lv_iload_n hx hb dX10_init_1589 rfl (lv_at hl 0 rfl) ?_
  refine lv_bipush (v := 13) hx hb dX10_init_1590 (by decide) ?_
  refine hb_icmp_ge (zx := 6) (zy := 13) (tgt := 1611) hx hb (by decide) (by decide) dX10_init_1592 (by decide) (fun c_551 => absurd c_551 (by decide)) (fun c_551 => ?_)
  refine lv_aload_n hx hb dX10_init_1595 rfl (lv_at hl 1 rfl) ?_
  refine hk_getr hx hb hts hC_10 hown hW gy td_10 3 (by decide) rfl kw_1146 ⟨rfl, rfl, rfl⟩ f_10 dX10_init_1596 ?_
  refine lv_iload_n hx hb dX10_init_1599 rfl (lv_at hl 0 rfl) ?_
  refine lv_iload_n hx hb dX10_init_1600 rfl (lv_at hl 0 rfl) ?_
  refine hx_goi (hx_runS (As := [.int (6 : Int32)]) (rest := [.int (6 : Int32), .ref q_7]) ⟨hx, hb, hml, hown, hts⟩ hW (c_X10_without_6 l dC dI dA L1 hl1 H.size ) (va_cwS 1 hts (hx_gS kw_1121 kw_1119 kw_1120 kw_103) rfl rfl rfl (by decide +kernel) ⟨Nat.le_of_ble_eq_true rfl, Nat.le_of_ble_eq_true rfl⟩) rfl hl.1 rfl (Nat.le_of_ble_eq_true rfl) dX10_init_1601 ⟨Nat.le_of_ble_eq_true rfl, Nat.le_of_ble_eq_true rfl⟩) hW (fun r_554 L_552 h_553 H locs p_555 hW => ?_)
  obtain ⟨rfl, eu⟩ := p_555
  cases eu
  refine hk_iast hx hb hW gq_7 td_50 rfl (by decide) rfl dX10_init_1604 (fun H locs h_556 eh_556 hW hs => ?_)
  have f_5 := (hs.o gy trivial rfl).2.trans f_5
  have f_10 := (hs.o gy trivial rfl).2.trans f_10
  have f_15 := (hs.o gy trivial rfl).2.trans f_15
  have f_20 := (hs.o gy trivial rfl).2.trans f_20
  have f_25 := (hs.o gy trivial rfl).2.trans f_25
  have f_30 := (hs.o gy trivial rfl).2.trans f_30
  have f_35 := (hs.o gy trivial rfl).2.trans f_35
  have f_225 := (hs.o gy trivial rfl).2.trans f_225
  have f_230 := (hs.o gy trivial rfl).2.trans f_230
  have f_235 := (hs.o gy trivial rfl).2.trans f_235
  have f_240 := (hs.o gy trivial rfl).2.trans f_240
  have f_245 := (hs.o gy trivial rfl).2.trans f_245
  have f_250 := (hs.o gy trivial rfl).2.trans f_250
  have f_475 := (hs.o gy trivial rfl).2.trans f_475
  have f_505 := (hs.o gy trivial rfl).2.trans f_505
  have hM := hM.tr (hs.mono (by decide))
  have gy := gy.S hs
  have gq_2 := gq_2.S hs
  have gq_7 := gq_7.S hs
  have gq_12 := gq_12.S hs
  have gq_17 := gq_17.S hs
  have gq_22 := gq_22.S hs
  have gq_27 := gq_27.S hs
  have gq_32 := gq_32.S hs
  have gq_222 := gq_222.S hs
  have gq_227 := gq_227.S hs
  have gq_232 := gq_232.S hs
  have gq_237 := gq_237.S hs
  have gq_242 := gq_242.S hs
  have gq_247 := gq_247.S hs
  have gq_472 := gq_472.S hs
  have gq_502 := gq_502.S hs
  have f_515 : h_556.2.1 q_7 (0 : Int32).toNatClampNeg = (480 : Int32) := by rw [eh_556]; exact (hx_pi_ne _ _ (fun z => absurd z.2 (by decide))).trans f_515
  have f_522 : h_556.2.1 q_7 (1 : Int32).toNatClampNeg = (30 : Int32) := by rw [eh_556]; exact (hx_pi_ne _ _ (fun z => absurd z.2 (by decide))).trans f_522
  have f_529 : h_556.2.1 q_7 (2 : Int32).toNatClampNeg = (12 : Int32) := by rw [eh_556]; exact (hx_pi_ne _ _ (fun z => absurd z.2 (by decide))).trans f_529
  have f_536 : h_556.2.1 q_7 (3 : Int32).toNatClampNeg = (60 : Int32) := by rw [eh_556]; exact (hx_pi_ne _ _ (fun z => absurd z.2 (by decide))).trans f_536
  have f_543 : h_556.2.1 q_7 (4 : Int32).toNatClampNeg = (2 : Int32) := by rw [eh_556]; exact (hx_pi_ne _ _ (fun z => absurd z.2 (by decide))).trans f_543
  have f_550 : h_556.2.1 q_7 (5 : Int32).toNatClampNeg = (4 : Int32) := by rw [eh_556]; exact (hx_pi_ne _ _ (fun z => absurd z.2 (by decide))).trans f_550
  have f_557 : h_556.2.1 q_7 (6 : Int32).toNatClampNeg = (1 : Int32) := by rw [eh_556]; exact hx_pi_at _ _ _ _
  refine lv_iinc (v := 7) (lv' := [(1, .int (7 : Int32)), (0, .ref y)]) hx hb dX10_init_1605 hl (k := 0) rfl (by decide) (by decide) rfl (fun ls hl => ?_)
  refine lv_goto (tgt := 1589) hx hb dX10_init_1608 (by decide) ?_
  refine lv_iload_n hx hb dX10_init_1589 rfl (lv_at hl 0 rfl) ?_
  refine lv_bipush (v := 13) hx hb dX10_init_1590 (by decide) ?_
  refine hb_icmp_ge (zx := 7) (zy := 13) (tgt := 1611) hx hb (by decide) (by decide) dX10_init_1592 (by decide) (fun c_558 => absurd c_558 (by decide)) (fun c_558 => ?_)
  refine lv_aload_n hx hb dX10_init_1595 rfl (lv_at hl 1 rfl) ?_
  refine hk_getr hx hb hts hC_10 hown hW gy td_10 3 (by decide) rfl kw_1146 ⟨rfl, rfl, rfl⟩ f_10 dX10_init_1596 ?_
  refine lv_iload_n hx hb dX10_init_1599 rfl (lv_at hl 0 rfl) ?_
  refine lv_iload_n hx hb dX10_init_1600 rfl (lv_at hl 0 rfl) ?_
  refine hx_goi (hx_runS (As := [.int (7 : Int32)]) (rest := [.int (7 : Int32), .ref q_7]) ⟨hx, hb, hml, hown, hts⟩ hW (c_X10_without_7 l dC dI dA L1 h_556 H.size ) (va_cwS 1 hts (hx_gS kw_1121 kw_1119 kw_1120 kw_103) rfl rfl rfl (by decide +kernel) ⟨Nat.le_of_ble_eq_true rfl, Nat.le_of_ble_eq_true rfl⟩) rfl hl.1 rfl (Nat.le_of_ble_eq_true rfl) dX10_init_1601 ⟨Nat.le_of_ble_eq_true rfl, Nat.le_of_ble_eq_true rfl⟩) hW (fun r_561 L_559 h_560 H locs p_562 hW => ?_)
  obtain ⟨rfl, eu⟩ := p_562
  cases eu
  refine hk_iast hx hb hW gq_7 td_50 rfl (by decide) rfl dX10_init_1604 (fun H locs h_563 eh_563 hW hs => ?_)
  have f_5 := (hs.o gy trivial rfl).2.trans f_5
  have f_10 := (hs.o gy trivial rfl).2.trans f_10
  have f_15 := (hs.o gy trivial rfl).2.trans f_15
  have f_20 := (hs.o gy trivial rfl).2.trans f_20
  have f_25 := (hs.o gy trivial rfl).2.trans f_25
  have f_30 := (hs.o gy trivial rfl).2.trans f_30
  have f_35 := (hs.o gy trivial rfl).2.trans f_35
  have f_225 := (hs.o gy trivial rfl).2.trans f_225
  have f_230 := (hs.o gy trivial rfl).2.trans f_230
  have f_235 := (hs.o gy trivial rfl).2.trans f_235
  have f_240 := (hs.o gy trivial rfl).2.trans f_240
  have f_245 := (hs.o gy trivial rfl).2.trans f_245
  have f_250 := (hs.o gy trivial rfl).2.trans f_250
  have f_475 := (hs.o gy trivial rfl).2.trans f_475
  have f_505 := (hs.o gy trivial rfl).2.trans f_505
  have hM := hM.tr (hs.mono (by decide))
  have gy := gy.S hs
  have gq_2 := gq_2.S hs
  have gq_7 := gq_7.S hs
  have gq_12 := gq_12.S hs
  have gq_17 := gq_17.S hs
  have gq_22 := gq_22.S hs
  have gq_27 := gq_27.S hs
  have gq_32 := gq_32.S hs
  have gq_222 := gq_222.S hs
  have gq_227 := gq_227.S hs
  have gq_232 := gq_232.S hs
  have gq_237 := gq_237.S hs
  have gq_242 := gq_242.S hs
  have gq_247 := gq_247.S hs
  have gq_472 := gq_472.S hs
  have gq_502 := gq_502.S hs
  have f_515 : h_563.2.1 q_7 (0 : Int32).toNatClampNeg = (480 : Int32) := by rw [eh_563]; exact (hx_pi_ne _ _ (fun z => absurd z.2 (by decide))).trans f_515
  have f_522 : h_563.2.1 q_7 (1 : Int32).toNatClampNeg = (30 : Int32) := by rw [eh_563]; exact (hx_pi_ne _ _ (fun z => absurd z.2 (by decide))).trans f_522
  have f_529 : h_563.2.1 q_7 (2 : Int32).toNatClampNeg = (12 : Int32) := by rw [eh_563]; exact (hx_pi_ne _ _ (fun z => absurd z.2 (by decide))).trans f_529
  have f_536 : h_563.2.1 q_7 (3 : Int32).toNatClampNeg = (60 : Int32) := by rw [eh_563]; exact (hx_pi_ne _ _ (fun z => absurd z.2 (by decide))).trans f_536
  have f_543 : h_563.2.1 q_7 (4 : Int32).toNatClampNeg = (2 : Int32) := by rw [eh_563]; exact (hx_pi_ne _ _ (fun z => absurd z.2 (by decide))).trans f_543
  have f_550 : h_563.2.1 q_7 (5 : Int32).toNatClampNeg = (4 : Int32) := by rw [eh_563]; exact (hx_pi_ne _ _ (fun z => absurd z.2 (by decide))).trans f_550
  have f_557 : h_563.2.1 q_7 (6 : Int32).toNatClampNeg = (1 : Int32) := by rw [eh_563]; exact (hx_pi_ne _ _ (fun z => absurd z.2 (by decide))).trans f_557
  have f_564 : h_563.2.1 q_7 (7 : Int32).toNatClampNeg = (40 : Int32) := by rw [eh_563]; exact hx_pi_at _ _ _ _
  refine lv_iinc (v := 8) (lv' := [(1, .int (8 : Int32)), (0, .ref y)]) hx hb dX10_init_1605 hl (k := 0) rfl (by decide) (by decide) rfl (fun ls hl => ?_)
  refine lv_goto (tgt := 1589) hx hb dX10_init_1608 (by decide) ?_
  refine lv_iload_n hx hb dX10_init_1589 rfl (lv_at hl 0 rfl) ?_
  refine lv_bipush (v := 13) hx hb dX10_init_1590 (by decide) ?_
  refine hb_icmp_ge (zx := 8) (zy := 13) (tgt := 1611) hx hb (by decide) (by decide) dX10_init_1592 (by decide) (fun c_565 => absurd c_565 (by decide)) (fun c_565 => ?_)
  refine lv_aload_n hx hb dX10_init_1595 rfl (lv_at hl 1 rfl) ?_
  refine hk_getr hx hb hts hC_10 hown hW gy td_10 3 (by decide) rfl kw_1146 ⟨rfl, rfl, rfl⟩ f_10 dX10_init_1596 ?_
  refine lv_iload_n hx hb dX10_init_1599 rfl (lv_at hl 0 rfl) ?_
  refine lv_iload_n hx hb dX10_init_1600 rfl (lv_at hl 0 rfl) ?_
  refine hx_goi (hx_runS (As := [.int (8 : Int32)]) (rest := [.int (8 : Int32), .ref q_7]) ⟨hx, hb, hml, hown, hts⟩ hW (c_X10_without_8 l dC dI dA L1 h_563 H.size ) (va_cwS 1 hts (hx_gS kw_1121 kw_1119 kw_1120 kw_103) rfl rfl rfl (by decide +kernel) ⟨Nat.le_of_ble_eq_true rfl, Nat.le_of_ble_eq_true rfl⟩) rfl hl.1 rfl (Nat.le_of_ble_eq_true rfl) dX10_init_1601 ⟨Nat.le_of_ble_eq_true rfl, Nat.le_of_ble_eq_true rfl⟩) hW (fun r_568 L_566 h_567 H locs p_569 hW => ?_)
  obtain ⟨rfl, eu⟩ := p_569
  cases eu
  refine hk_iast hx hb hW gq_7 td_50 rfl (by decide) rfl dX10_init_1604 (fun H locs h_570 eh_570 hW hs => ?_)
  have f_5 := (hs.o gy trivial rfl).2.trans f_5
  have f_10 := (hs.o gy trivial rfl).2.trans f_10
  have f_15 := (hs.o gy trivial rfl).2.trans f_15
  have f_20 := (hs.o gy trivial rfl).2.trans f_20
  have f_25 := (hs.o gy trivial rfl).2.trans f_25
  have f_30 := (hs.o gy trivial rfl).2.trans f_30
  have f_35 := (hs.o gy trivial rfl).2.trans f_35
  have f_225 := (hs.o gy trivial rfl).2.trans f_225
  have f_230 := (hs.o gy trivial rfl).2.trans f_230
  have f_235 := (hs.o gy trivial rfl).2.trans f_235
  have f_240 := (hs.o gy trivial rfl).2.trans f_240
  have f_245 := (hs.o gy trivial rfl).2.trans f_245
  have f_250 := (hs.o gy trivial rfl).2.trans f_250
  have f_475 := (hs.o gy trivial rfl).2.trans f_475
  have f_505 := (hs.o gy trivial rfl).2.trans f_505
  have hM := hM.tr (hs.mono (by decide))
  have gy := gy.S hs
  have gq_2 := gq_2.S hs
  have gq_7 := gq_7.S hs
  have gq_12 := gq_12.S hs
  have gq_17 := gq_17.S hs
  have gq_22 := gq_22.S hs
  have gq_27 := gq_27.S hs
  have gq_32 := gq_32.S hs
  have gq_222 := gq_222.S hs
  have gq_227 := gq_227.S hs
  have gq_232 := gq_232.S hs
  have gq_237 := gq_237.S hs
  have gq_242 := gq_242.S hs
  have gq_247 := gq_247.S hs
  have gq_472 := gq_472.S hs
  have gq_502 := gq_502.S hs
  have f_515 : h_570.2.1 q_7 (0 : Int32).toNatClampNeg = (480 : Int32) := by rw [eh_570]; exact (hx_pi_ne _ _ (fun z => absurd z.2 (by decide))).trans f_515
  have f_522 : h_570.2.1 q_7 (1 : Int32).toNatClampNeg = (30 : Int32) := by rw [eh_570]; exact (hx_pi_ne _ _ (fun z => absurd z.2 (by decide))).trans f_522
  have f_529 : h_570.2.1 q_7 (2 : Int32).toNatClampNeg = (12 : Int32) := by rw [eh_570]; exact (hx_pi_ne _ _ (fun z => absurd z.2 (by decide))).trans f_529
  have f_536 : h_570.2.1 q_7 (3 : Int32).toNatClampNeg = (60 : Int32) := by rw [eh_570]; exact (hx_pi_ne _ _ (fun z => absurd z.2 (by decide))).trans f_536
  have f_543 : h_570.2.1 q_7 (4 : Int32).toNatClampNeg = (2 : Int32) := by rw [eh_570]; exact (hx_pi_ne _ _ (fun z => absurd z.2 (by decide))).trans f_543
  have f_550 : h_570.2.1 q_7 (5 : Int32).toNatClampNeg = (4 : Int32) := by rw [eh_570]; exact (hx_pi_ne _ _ (fun z => absurd z.2 (by decide))).trans f_550
  have f_557 : h_570.2.1 q_7 (6 : Int32).toNatClampNeg = (1 : Int32) := by rw [eh_570]; exact (hx_pi_ne _ _ (fun z => absurd z.2 (by decide))).trans f_557
  have f_564 : h_570.2.1 q_7 (7 : Int32).toNatClampNeg = (40 : Int32) := by rw [eh_570]; exact (hx_pi_ne _ _ (fun z => absurd z.2 (by decide))).trans f_564
  have f_571 : h_570.2.1 q_7 (8 : Int32).toNatClampNeg = (21 : Int32) := by rw [eh_570]; exact hx_pi_at _ _ _ _
  refine lv_iinc (v := 9) (lv' := [(1, .int (9 : Int32)), (0, .ref y)]) hx hb dX10_init_1605 hl (k := 0) rfl (by decide) (by decide) rfl (fun ls hl => ?_)
  refine lv_goto (tgt := 1589) hx hb dX10_init_1608 (by decide) ?_
  refine W.widen (k := 67) (n := 15340) (Nat.le_of_ble_eq_true rfl) (Nat.le_of_ble_eq_true rfl) ?_
  exact sg_X10_init_29 l dC dI dA L h sz y q_2 q_7 q_12 q_17 q_22 q_27 q_32 q_222 q_227 q_232 q_237 q_242 q_247 q_472 q_502 hx hb hml hr hlk hts hown hin hsz L1 h_570 _ _ ls hW hM f_5 f_10 f_15 f_20 f_25 f_30 f_35 f_225 f_230 f_235 f_240 f_245 f_250 f_475 f_505 f_515 f_522 f_529 f_536 f_543 f_550 f_557 f_564 f_571  gy gq_2 gq_7 gq_12 gq_17 gq_22 gq_27 gq_32 gq_222 gq_227 gq_232 gq_237 gq_242 gq_247 gq_472 gq_502 hl

set_option maxHeartbeats 4000000 in
set_option maxRecDepth 100000 in
theorem sg_X10_init_27 (l : Launch) (dC : Nat → ClassId) (dI : Nat → Nat → Nat) (dA : Nat → ClassId) (L : List Nat) (h : hx_h) (sz : Nat) (y : Nat) (q_2 q_7 q_12 q_17 q_22 q_27 q_32 q_222 q_227 q_232 q_237 q_242 q_247 q_472 q_502 : Nat) {p : Program} {e : Env} {s : State} {m : MethodId} {below : List Frame} {meth : Method} {c : Code} (hx : p.tables.exec = Jvm.exec) (hb : c.code = cX10_init) (hml : c.maxLocals = 2) (hr : meth.sig.returnType = none) (hlk : meth.locks = false) (hts : ∀ w ∈ hx_all, w.before ([.ref y] : List Value).toArray s = true) (hown : s.vm.findClass "SmallCourtModel" = some m.cls) (hin : meth.name = "<init>") (hsz : s.heap.size = sz) (L1 : List Nat) (hl1 : hx_h) (H : Heap) (locs : List Loc) (ls : Array Slot) (hW : hx_W P_tb (P_ty dA) (dC, dI) vwCl (hx_A L sz) s.heap L1 hl1 s H locs) (hM : hx_S P_tb [(10, 2), (10, 3), (10, 4), (10, 5), (10, 6), (10, 12), (10, 14), (10, 15), (10, 16), (10, 17), (10, 18), (10, 19), (10, 21), (10, 22), (10, 23), (10, 24), (10, 25), (10, 26), (10, 27), (10, 28), (10, 30), (10, 31), (10, 32), (10, 33), (10, 34), (10, 35), (10, 37), (10, 38), (10, 39), (10, 40), (10, 41), (10, 42), (10, 43), (10, 44), (10, 45), (10, 46), (10, 47), (10, 48), (10, 49), (10, 50), (10, 51), (10, 52), (10, 53), (10, 54), (10, 55), (10, 56), (10, 58), (10, 60), (10, 61), (10, 62), (10, 63), (10, 64), (10, 65), (10, 66), (10, 73), (10, 74), (10, 76), (10, 77), (10, 78), (10, 79), (10, 80), (10, 81), (10, 82), (10, 85), (10, 88), (10, 89), (10, 91), (10, 93), (10, 94), (10, 97), (50, 0), (51, 0), (52, 0), (55, 0), (57, 0)] L h L1 hl1) (f_5 : hl1.2.2 y 2 = some q_2) (f_10 : hl1.2.2 y 3 = some q_7) (f_15 : hl1.2.2 y 4 = some q_12) (f_20 : hl1.2.2 y 5 = some q_17) (f_25 : hl1.2.2 y 6 = some q_22) (f_30 : hl1.2.2 y 12 = some q_27) (f_35 : hl1.2.2 y 15 = some q_32) (f_225 : hl1.2.2 y 21 = some q_222) (f_230 : hl1.2.2 y 22 = some q_227) (f_235 : hl1.2.2 y 23 = some q_232) (f_240 : hl1.2.2 y 24 = some q_237) (f_245 : hl1.2.2 y 25 = some q_242) (f_250 : hl1.2.2 y 26 = some q_247) (f_475 : hl1.2.2 y 82 = some q_472) (f_505 : hl1.2.2 y 94 = some q_502) (f_515 : hl1.2.1 q_7 (0 : Int32).toNatClampNeg = (480 : Int32)) (f_522 : hl1.2.1 q_7 (1 : Int32).toNatClampNeg = (30 : Int32))  (gy : hx_g L1 hl1 y 10) (gq_2 : hx_g L1 hl1 q_2 49) (gq_7 : hx_g L1 hl1 q_7 50) (gq_12 : hx_g L1 hl1 q_12 51) (gq_17 : hx_g L1 hl1 q_17 52) (gq_22 : hx_g L1 hl1 q_22 53) (gq_27 : hx_g L1 hl1 q_27 54) (gq_32 : hx_g L1 hl1 q_32 55) (gq_222 : hx_g L1 hl1 q_222 58) (gq_227 : hx_g L1 hl1 q_227 59) (gq_232 : hx_g L1 hl1 q_232 60) (gq_237 : hx_g L1 hl1 q_237 61) (gq_242 : hx_g L1 hl1 q_242 62) (gq_247 : hx_g L1 hl1 q_247 63) (gq_472 : hx_g L1 hl1 q_472 108) (gq_502 : hx_g L1 hl1 q_502 114) (hl : lv_has ls 2 [(1, .int (1 : Int32)), (0, .ref y)]) : W p l e ({ frames := 2, cells := 67, slots := 15340, locals := 42 }) s m ([.ref y] : List Value).toArray below meth c H locs 67 15340 (MQ below (va_Qv (fun (u : List Nat × hx_h) => hx_S P_tb [(10, 2), (10, 3), (10, 4), (10, 5), (10, 6), (10, 12), (10, 14), (10, 15), (10, 16), (10, 17), (10, 18), (10, 19), (10, 21), (10, 22), (10, 23), (10, 24), (10, 25), (10, 26), (10, 27), (10, 28), (10, 30), (10, 31), (10, 32), (10, 33), (10, 34), (10, 35), (10, 37), (10, 38), (10, 39), (10, 40), (10, 41), (10, 42), (10, 43), (10, 44), (10, 45), (10, 46), (10, 47), (10, 48), (10, 49), (10, 50), (10, 51), (10, 52), (10, 53), (10, 54), (10, 55), (10, 56), (10, 58), (10, 60), (10, 61), (10, 62), (10, 63), (10, 64), (10, 65), (10, 66), (10, 73), (10, 74), (10, 76), (10, 77), (10, 78), (10, 79), (10, 80), (10, 81), (10, 82), (10, 85), (10, 88), (10, 89), (10, 91), (10, 93), (10, 94), (10, 97), (50, 0), (51, 0), (52, 0), (55, 0), (57, 0)] L h u.1 u.2 ∧ (∃ q, u.2.2.2 y 2 = some q ∧ hx_g u.1 u.2 q 49) ∧ (∃ q, u.2.2.2 y 3 = some q ∧ hx_g u.1 u.2 q 50 ∧ (∀ j, j < 13 → u.2.2.1 q j = P_w1 j)) ∧ (∃ q, u.2.2.2 y 4 = some q ∧ hx_g u.1 u.2 q 51) ∧ (∃ q, u.2.2.2 y 5 = some q ∧ hx_g u.1 u.2 q 52) ∧ (∃ q, u.2.2.2 y 6 = some q ∧ hx_g u.1 u.2 q 53) ∧ (∃ q, u.2.2.2 y 12 = some q ∧ hx_g u.1 u.2 q 54) ∧ (∃ q, u.2.2.2 y 15 = some q ∧ hx_g u.1 u.2 q 55) ∧ (∃ q, u.2.2.2 y 21 = some q ∧ hx_g u.1 u.2 q 58) ∧ (∃ q, u.2.2.2 y 22 = some q ∧ hx_g u.1 u.2 q 59) ∧ (∃ q, u.2.2.2 y 23 = some q ∧ hx_g u.1 u.2 q 60) ∧ (∃ q, u.2.2.2 y 24 = some q ∧ hx_g u.1 u.2 q 61) ∧ (∃ q, u.2.2.2 y 25 = some q ∧ hx_g u.1 u.2 q 62) ∧ (∃ q, u.2.2.2 y 26 = some q ∧ hx_g u.1 u.2 q 63) ∧ (∃ q, u.2.2.2 y 82 = some q ∧ hx_g u.1 u.2 q 108) ∧ (∃ q, u.2.2.2 y 94 = some q ∧ hx_g u.1 u.2 q 114)) (hx_E P_tb (P_ty dA) (dC, dI) vwCl (hx_A L sz)) (hx_A L sz)) ([.ref y] : List Value).toArray s 67 15340 (hx_A L sz)) (F0 m 1605 ls []) := by
  refine lv_iinc (v := 2) (lv' := [(1, .int (2 : Int32)), (0, .ref y)]) hx hb dX10_init_1605 hl (k := 0) rfl (by decide) (by decide) rfl (fun ls hl => ?_)
  refine lv_goto (tgt := 1589) hx hb dX10_init_1608 (by decide) ?_
  refine lv_iload_n hx hb dX10_init_1589 rfl (lv_at hl 0 rfl) ?_
  refine lv_bipush (v := 13) hx hb dX10_init_1590 (by decide) ?_
  refine hb_icmp_ge (zx := 2) (zy := 13) (tgt := 1611) hx hb (by decide) (by decide) dX10_init_1592 (by decide) (fun c_523 => absurd c_523 (by decide)) (fun c_523 => ?_)
  refine lv_aload_n hx hb dX10_init_1595 rfl (lv_at hl 1 rfl) ?_
  refine hk_getr hx hb hts hC_10 hown hW gy td_10 3 (by decide) rfl kw_1146 ⟨rfl, rfl, rfl⟩ f_10 dX10_init_1596 ?_
  refine lv_iload_n hx hb dX10_init_1599 rfl (lv_at hl 0 rfl) ?_
  refine lv_iload_n hx hb dX10_init_1600 rfl (lv_at hl 0 rfl) ?_
  refine hx_goi (hx_runS (As := [.int (2 : Int32)]) (rest := [.int (2 : Int32), .ref q_7]) ⟨hx, hb, hml, hown, hts⟩ hW (c_X10_without_2 l dC dI dA L1 hl1 H.size ) (va_cwS 1 hts (hx_gS kw_1121 kw_1119 kw_1120 kw_103) rfl rfl rfl (by decide +kernel) ⟨Nat.le_of_ble_eq_true rfl, Nat.le_of_ble_eq_true rfl⟩) rfl hl.1 rfl (Nat.le_of_ble_eq_true rfl) dX10_init_1601 ⟨Nat.le_of_ble_eq_true rfl, Nat.le_of_ble_eq_true rfl⟩) hW (fun r_526 L_524 h_525 H locs p_527 hW => ?_)
  obtain ⟨rfl, eu⟩ := p_527
  cases eu
  refine hk_iast hx hb hW gq_7 td_50 rfl (by decide) rfl dX10_init_1604 (fun H locs h_528 eh_528 hW hs => ?_)
  have f_5 := (hs.o gy trivial rfl).2.trans f_5
  have f_10 := (hs.o gy trivial rfl).2.trans f_10
  have f_15 := (hs.o gy trivial rfl).2.trans f_15
  have f_20 := (hs.o gy trivial rfl).2.trans f_20
  have f_25 := (hs.o gy trivial rfl).2.trans f_25
  have f_30 := (hs.o gy trivial rfl).2.trans f_30
  have f_35 := (hs.o gy trivial rfl).2.trans f_35
  have f_225 := (hs.o gy trivial rfl).2.trans f_225
  have f_230 := (hs.o gy trivial rfl).2.trans f_230
  have f_235 := (hs.o gy trivial rfl).2.trans f_235
  have f_240 := (hs.o gy trivial rfl).2.trans f_240
  have f_245 := (hs.o gy trivial rfl).2.trans f_245
  have f_250 := (hs.o gy trivial rfl).2.trans f_250
  have f_475 := (hs.o gy trivial rfl).2.trans f_475
  have f_505 := (hs.o gy trivial rfl).2.trans f_505
  have hM := hM.tr (hs.mono (by decide))
  have gy := gy.S hs
  have gq_2 := gq_2.S hs
  have gq_7 := gq_7.S hs
  have gq_12 := gq_12.S hs
  have gq_17 := gq_17.S hs
  have gq_22 := gq_22.S hs
  have gq_27 := gq_27.S hs
  have gq_32 := gq_32.S hs
  have gq_222 := gq_222.S hs
  have gq_227 := gq_227.S hs
  have gq_232 := gq_232.S hs
  have gq_237 := gq_237.S hs
  have gq_242 := gq_242.S hs
  have gq_247 := gq_247.S hs
  have gq_472 := gq_472.S hs
  have gq_502 := gq_502.S hs
  have f_515 : h_528.2.1 q_7 (0 : Int32).toNatClampNeg = (480 : Int32) := by rw [eh_528]; exact (hx_pi_ne _ _ (fun z => absurd z.2 (by decide))).trans f_515
  have f_522 : h_528.2.1 q_7 (1 : Int32).toNatClampNeg = (30 : Int32) := by rw [eh_528]; exact (hx_pi_ne _ _ (fun z => absurd z.2 (by decide))).trans f_522
  have f_529 : h_528.2.1 q_7 (2 : Int32).toNatClampNeg = (12 : Int32) := by rw [eh_528]; exact hx_pi_at _ _ _ _
  refine lv_iinc (v := 3) (lv' := [(1, .int (3 : Int32)), (0, .ref y)]) hx hb dX10_init_1605 hl (k := 0) rfl (by decide) (by decide) rfl (fun ls hl => ?_)
  refine lv_goto (tgt := 1589) hx hb dX10_init_1608 (by decide) ?_
  refine lv_iload_n hx hb dX10_init_1589 rfl (lv_at hl 0 rfl) ?_
  refine lv_bipush (v := 13) hx hb dX10_init_1590 (by decide) ?_
  refine hb_icmp_ge (zx := 3) (zy := 13) (tgt := 1611) hx hb (by decide) (by decide) dX10_init_1592 (by decide) (fun c_530 => absurd c_530 (by decide)) (fun c_530 => ?_)
  refine lv_aload_n hx hb dX10_init_1595 rfl (lv_at hl 1 rfl) ?_
  refine hk_getr hx hb hts hC_10 hown hW gy td_10 3 (by decide) rfl kw_1146 ⟨rfl, rfl, rfl⟩ f_10 dX10_init_1596 ?_
  refine lv_iload_n hx hb dX10_init_1599 rfl (lv_at hl 0 rfl) ?_
  refine lv_iload_n hx hb dX10_init_1600 rfl (lv_at hl 0 rfl) ?_
  refine hx_goi (hx_runS (As := [.int (3 : Int32)]) (rest := [.int (3 : Int32), .ref q_7]) ⟨hx, hb, hml, hown, hts⟩ hW (c_X10_without_3 l dC dI dA L1 h_528 H.size ) (va_cwS 1 hts (hx_gS kw_1121 kw_1119 kw_1120 kw_103) rfl rfl rfl (by decide +kernel) ⟨Nat.le_of_ble_eq_true rfl, Nat.le_of_ble_eq_true rfl⟩) rfl hl.1 rfl (Nat.le_of_ble_eq_true rfl) dX10_init_1601 ⟨Nat.le_of_ble_eq_true rfl, Nat.le_of_ble_eq_true rfl⟩) hW (fun r_533 L_531 h_532 H locs p_534 hW => ?_)
  obtain ⟨rfl, eu⟩ := p_534
  cases eu
  refine hk_iast hx hb hW gq_7 td_50 rfl (by decide) rfl dX10_init_1604 (fun H locs h_535 eh_535 hW hs => ?_)
  have f_5 := (hs.o gy trivial rfl).2.trans f_5
  have f_10 := (hs.o gy trivial rfl).2.trans f_10
  have f_15 := (hs.o gy trivial rfl).2.trans f_15
  have f_20 := (hs.o gy trivial rfl).2.trans f_20
  have f_25 := (hs.o gy trivial rfl).2.trans f_25
  have f_30 := (hs.o gy trivial rfl).2.trans f_30
  have f_35 := (hs.o gy trivial rfl).2.trans f_35
  have f_225 := (hs.o gy trivial rfl).2.trans f_225
  have f_230 := (hs.o gy trivial rfl).2.trans f_230
  have f_235 := (hs.o gy trivial rfl).2.trans f_235
  have f_240 := (hs.o gy trivial rfl).2.trans f_240
  have f_245 := (hs.o gy trivial rfl).2.trans f_245
  have f_250 := (hs.o gy trivial rfl).2.trans f_250
  have f_475 := (hs.o gy trivial rfl).2.trans f_475
  have f_505 := (hs.o gy trivial rfl).2.trans f_505
  have hM := hM.tr (hs.mono (by decide))
  have gy := gy.S hs
  have gq_2 := gq_2.S hs
  have gq_7 := gq_7.S hs
  have gq_12 := gq_12.S hs
  have gq_17 := gq_17.S hs
  have gq_22 := gq_22.S hs
  have gq_27 := gq_27.S hs
  have gq_32 := gq_32.S hs
  have gq_222 := gq_222.S hs
  have gq_227 := gq_227.S hs
  have gq_232 := gq_232.S hs
  have gq_237 := gq_237.S hs
  have gq_242 := gq_242.S hs
  have gq_247 := gq_247.S hs
  have gq_472 := gq_472.S hs
  have gq_502 := gq_502.S hs
  have f_515 : h_535.2.1 q_7 (0 : Int32).toNatClampNeg = (480 : Int32) := by rw [eh_535]; exact (hx_pi_ne _ _ (fun z => absurd z.2 (by decide))).trans f_515
  have f_522 : h_535.2.1 q_7 (1 : Int32).toNatClampNeg = (30 : Int32) := by rw [eh_535]; exact (hx_pi_ne _ _ (fun z => absurd z.2 (by decide))).trans f_522
  have f_529 : h_535.2.1 q_7 (2 : Int32).toNatClampNeg = (12 : Int32) := by rw [eh_535]; exact (hx_pi_ne _ _ (fun z => absurd z.2 (by decide))).trans f_529
  have f_536 : h_535.2.1 q_7 (3 : Int32).toNatClampNeg = (60 : Int32) := by rw [eh_535]; exact hx_pi_at _ _ _ _
  refine lv_iinc (v := 4) (lv' := [(1, .int (4 : Int32)), (0, .ref y)]) hx hb dX10_init_1605 hl (k := 0) rfl (by decide) (by decide) rfl (fun ls hl => ?_)
  refine lv_goto (tgt := 1589) hx hb dX10_init_1608 (by decide) ?_
  refine lv_iload_n hx hb dX10_init_1589 rfl (lv_at hl 0 rfl) ?_
  refine lv_bipush (v := 13) hx hb dX10_init_1590 (by decide) ?_
  refine hb_icmp_ge (zx := 4) (zy := 13) (tgt := 1611) hx hb (by decide) (by decide) dX10_init_1592 (by decide) (fun c_537 => absurd c_537 (by decide)) (fun c_537 => ?_)
  refine lv_aload_n hx hb dX10_init_1595 rfl (lv_at hl 1 rfl) ?_
  refine hk_getr hx hb hts hC_10 hown hW gy td_10 3 (by decide) rfl kw_1146 ⟨rfl, rfl, rfl⟩ f_10 dX10_init_1596 ?_
  refine lv_iload_n hx hb dX10_init_1599 rfl (lv_at hl 0 rfl) ?_
  refine lv_iload_n hx hb dX10_init_1600 rfl (lv_at hl 0 rfl) ?_
  refine hx_goi (hx_runS (As := [.int (4 : Int32)]) (rest := [.int (4 : Int32), .ref q_7]) ⟨hx, hb, hml, hown, hts⟩ hW (c_X10_without_4 l dC dI dA L1 h_535 H.size ) (va_cwS 1 hts (hx_gS kw_1121 kw_1119 kw_1120 kw_103) rfl rfl rfl (by decide +kernel) ⟨Nat.le_of_ble_eq_true rfl, Nat.le_of_ble_eq_true rfl⟩) rfl hl.1 rfl (Nat.le_of_ble_eq_true rfl) dX10_init_1601 ⟨Nat.le_of_ble_eq_true rfl, Nat.le_of_ble_eq_true rfl⟩) hW (fun r_540 L_538 h_539 H locs p_541 hW => ?_)
  obtain ⟨rfl, eu⟩ := p_541
  cases eu
  refine hk_iast hx hb hW gq_7 td_50 rfl (by decide) rfl dX10_init_1604 (fun H locs h_542 eh_542 hW hs => ?_)
  have f_5 := (hs.o gy trivial rfl).2.trans f_5
  have f_10 := (hs.o gy trivial rfl).2.trans f_10
  have f_15 := (hs.o gy trivial rfl).2.trans f_15
  have f_20 := (hs.o gy trivial rfl).2.trans f_20
  have f_25 := (hs.o gy trivial rfl).2.trans f_25
  have f_30 := (hs.o gy trivial rfl).2.trans f_30
  have f_35 := (hs.o gy trivial rfl).2.trans f_35
  have f_225 := (hs.o gy trivial rfl).2.trans f_225
  have f_230 := (hs.o gy trivial rfl).2.trans f_230
  have f_235 := (hs.o gy trivial rfl).2.trans f_235
  have f_240 := (hs.o gy trivial rfl).2.trans f_240
  have f_245 := (hs.o gy trivial rfl).2.trans f_245
  have f_250 := (hs.o gy trivial rfl).2.trans f_250
  have f_475 := (hs.o gy trivial rfl).2.trans f_475
  have f_505 := (hs.o gy trivial rfl).2.trans f_505
  have hM := hM.tr (hs.mono (by decide))
  have gy := gy.S hs
  have gq_2 := gq_2.S hs
  have gq_7 := gq_7.S hs
  have gq_12 := gq_12.S hs
  have gq_17 := gq_17.S hs
  have gq_22 := gq_22.S hs
  have gq_27 := gq_27.S hs
  have gq_32 := gq_32.S hs
  have gq_222 := gq_222.S hs
  have gq_227 := gq_227.S hs
  have gq_232 := gq_232.S hs
  have gq_237 := gq_237.S hs
  have gq_242 := gq_242.S hs
  have gq_247 := gq_247.S hs
  have gq_472 := gq_472.S hs
  have gq_502 := gq_502.S hs
  have f_515 : h_542.2.1 q_7 (0 : Int32).toNatClampNeg = (480 : Int32) := by rw [eh_542]; exact (hx_pi_ne _ _ (fun z => absurd z.2 (by decide))).trans f_515
  have f_522 : h_542.2.1 q_7 (1 : Int32).toNatClampNeg = (30 : Int32) := by rw [eh_542]; exact (hx_pi_ne _ _ (fun z => absurd z.2 (by decide))).trans f_522
  have f_529 : h_542.2.1 q_7 (2 : Int32).toNatClampNeg = (12 : Int32) := by rw [eh_542]; exact (hx_pi_ne _ _ (fun z => absurd z.2 (by decide))).trans f_529
  have f_536 : h_542.2.1 q_7 (3 : Int32).toNatClampNeg = (60 : Int32) := by rw [eh_542]; exact (hx_pi_ne _ _ (fun z => absurd z.2 (by decide))).trans f_536
  have f_543 : h_542.2.1 q_7 (4 : Int32).toNatClampNeg = (2 : Int32) := by rw [eh_542]; exact hx_pi_at _ _ _ _
  refine lv_iinc (v := 5) (lv' := [(1, .int (5 : Int32)), (0, .ref y)]) hx hb dX10_init_1605 hl (k := 0) rfl (by decide) (by decide) rfl (fun ls hl => ?_)
  refine lv_goto (tgt := 1589) hx hb dX10_init_1608 (by decide) ?_
  refine lv_iload_n hx hb dX10_init_1589 rfl (lv_at hl 0 rfl) ?_
  refine lv_bipush (v := 13) hx hb dX10_init_1590 (by decide) ?_
  refine hb_icmp_ge (zx := 5) (zy := 13) (tgt := 1611) hx hb (by decide) (by decide) dX10_init_1592 (by decide) (fun c_544 => absurd c_544 (by decide)) (fun c_544 => ?_)
  refine lv_aload_n hx hb dX10_init_1595 rfl (lv_at hl 1 rfl) ?_
  refine hk_getr hx hb hts hC_10 hown hW gy td_10 3 (by decide) rfl kw_1146 ⟨rfl, rfl, rfl⟩ f_10 dX10_init_1596 ?_
  refine lv_iload_n hx hb dX10_init_1599 rfl (lv_at hl 0 rfl) ?_
  refine lv_iload_n hx hb dX10_init_1600 rfl (lv_at hl 0 rfl) ?_
  refine hx_goi (hx_runS (As := [.int (5 : Int32)]) (rest := [.int (5 : Int32), .ref q_7]) ⟨hx, hb, hml, hown, hts⟩ hW (c_X10_without_5 l dC dI dA L1 h_542 H.size ) (va_cwS 1 hts (hx_gS kw_1121 kw_1119 kw_1120 kw_103) rfl rfl rfl (by decide +kernel) ⟨Nat.le_of_ble_eq_true rfl, Nat.le_of_ble_eq_true rfl⟩) rfl hl.1 rfl (Nat.le_of_ble_eq_true rfl) dX10_init_1601 ⟨Nat.le_of_ble_eq_true rfl, Nat.le_of_ble_eq_true rfl⟩) hW (fun r_547 L_545 h_546 H locs p_548 hW => ?_)
  obtain ⟨rfl, eu⟩ := p_548
  cases eu
  refine hk_iast hx hb hW gq_7 td_50 rfl (by decide) rfl dX10_init_1604 (fun H locs h_549 eh_549 hW hs => ?_)
  have f_5 := (hs.o gy trivial rfl).2.trans f_5
  have f_10 := (hs.o gy trivial rfl).2.trans f_10
  have f_15 := (hs.o gy trivial rfl).2.trans f_15
  have f_20 := (hs.o gy trivial rfl).2.trans f_20
  have f_25 := (hs.o gy trivial rfl).2.trans f_25
  have f_30 := (hs.o gy trivial rfl).2.trans f_30
  have f_35 := (hs.o gy trivial rfl).2.trans f_35
  have f_225 := (hs.o gy trivial rfl).2.trans f_225
  have f_230 := (hs.o gy trivial rfl).2.trans f_230
  have f_235 := (hs.o gy trivial rfl).2.trans f_235
  have f_240 := (hs.o gy trivial rfl).2.trans f_240
  have f_245 := (hs.o gy trivial rfl).2.trans f_245
  have f_250 := (hs.o gy trivial rfl).2.trans f_250
  have f_475 := (hs.o gy trivial rfl).2.trans f_475
  have f_505 := (hs.o gy trivial rfl).2.trans f_505
  have hM := hM.tr (hs.mono (by decide))
  have gy := gy.S hs
  have gq_2 := gq_2.S hs
  have gq_7 := gq_7.S hs
  have gq_12 := gq_12.S hs
  have gq_17 := gq_17.S hs
  have gq_22 := gq_22.S hs
  have gq_27 := gq_27.S hs
  have gq_32 := gq_32.S hs
  have gq_222 := gq_222.S hs
  have gq_227 := gq_227.S hs
  have gq_232 := gq_232.S hs
  have gq_237 := gq_237.S hs
  have gq_242 := gq_242.S hs
  have gq_247 := gq_247.S hs
  have gq_472 := gq_472.S hs
  have gq_502 := gq_502.S hs
  have f_515 : h_549.2.1 q_7 (0 : Int32).toNatClampNeg = (480 : Int32) := by rw [eh_549]; exact (hx_pi_ne _ _ (fun z => absurd z.2 (by decide))).trans f_515
  have f_522 : h_549.2.1 q_7 (1 : Int32).toNatClampNeg = (30 : Int32) := by rw [eh_549]; exact (hx_pi_ne _ _ (fun z => absurd z.2 (by decide))).trans f_522
  have f_529 : h_549.2.1 q_7 (2 : Int32).toNatClampNeg = (12 : Int32) := by rw [eh_549]; exact (hx_pi_ne _ _ (fun z => absurd z.2 (by decide))).trans f_529
  have f_536 : h_549.2.1 q_7 (3 : Int32).toNatClampNeg = (60 : Int32) := by rw [eh_549]; exact (hx_pi_ne _ _ (fun z => absurd z.2 (by decide))).trans f_536
  have f_543 : h_549.2.1 q_7 (4 : Int32).toNatClampNeg = (2 : Int32) := by rw [eh_549]; exact (hx_pi_ne _ _ (fun z => absurd z.2 (by decide))).trans f_543
  have f_550 : h_549.2.1 q_7 (5 : Int32).toNatClampNeg = (4 : Int32) := by rw [eh_549]; exact hx_pi_at _ _ _ _
  refine W.widen (k := 67) (n := 15340) (Nat.le_of_ble_eq_true rfl) (Nat.le_of_ble_eq_true rfl) ?_
  exact sg_X10_init_28 l dC dI dA L h sz y q_2 q_7 q_12 q_17 q_22 q_27 q_32 q_222 q_227 q_232 q_237 q_242 q_247 q_472 q_502 hx hb hml hr hlk hts hown hin hsz L1 h_549 _ _ ls hW hM f_5 f_10 f_15 f_20 f_25 f_30 f_35 f_225 f_230 f_235 f_240 f_245 f_250 f_475 f_505 f_515 f_522 f_529 f_536 f_543 f_550  gy gq_2 gq_7 gq_12 gq_17 gq_22 gq_27 gq_32 gq_222 gq_227 gq_232 gq_237 gq_242 gq_247 gq_472 gq_502 hl

set_option maxHeartbeats 4000000 in
set_option maxRecDepth 100000 in
theorem sg_X10_init_26 (l : Launch) (dC : Nat → ClassId) (dI : Nat → Nat → Nat) (dA : Nat → ClassId) (L : List Nat) (h : hx_h) (sz : Nat) (y : Nat) (q_2 q_7 q_12 q_17 q_22 q_27 q_32 q_222 q_227 q_232 q_237 q_242 q_247 q_472 q_502 : Nat) {p : Program} {e : Env} {s : State} {m : MethodId} {below : List Frame} {meth : Method} {c : Code} (hx : p.tables.exec = Jvm.exec) (hb : c.code = cX10_init) (hml : c.maxLocals = 2) (hr : meth.sig.returnType = none) (hlk : meth.locks = false) (hts : ∀ w ∈ hx_all, w.before ([.ref y] : List Value).toArray s = true) (hown : s.vm.findClass "SmallCourtModel" = some m.cls) (hin : meth.name = "<init>") (hsz : s.heap.size = sz) (L1 : List Nat) (hl1 : hx_h) (H : Heap) (locs : List Loc) (ls : Array Slot) (hW : hx_W P_tb (P_ty dA) (dC, dI) vwCl (hx_A L sz) s.heap L1 hl1 s H locs) (hM : hx_S P_tb [(10, 2), (10, 3), (10, 4), (10, 5), (10, 6), (10, 12), (10, 14), (10, 15), (10, 16), (10, 17), (10, 18), (10, 19), (10, 21), (10, 22), (10, 23), (10, 24), (10, 25), (10, 26), (10, 27), (10, 28), (10, 30), (10, 31), (10, 32), (10, 33), (10, 34), (10, 35), (10, 37), (10, 38), (10, 39), (10, 40), (10, 41), (10, 42), (10, 43), (10, 44), (10, 45), (10, 46), (10, 47), (10, 48), (10, 49), (10, 50), (10, 51), (10, 52), (10, 53), (10, 54), (10, 55), (10, 56), (10, 58), (10, 60), (10, 61), (10, 62), (10, 63), (10, 64), (10, 65), (10, 66), (10, 73), (10, 74), (10, 76), (10, 77), (10, 78), (10, 79), (10, 80), (10, 81), (10, 82), (10, 85), (10, 88), (10, 89), (10, 91), (10, 93), (10, 94), (10, 97), (50, 0), (51, 0), (52, 0), (55, 0), (57, 0)] L h L1 hl1) (f_5 : hl1.2.2 y 2 = some q_2) (f_10 : hl1.2.2 y 3 = some q_7) (f_15 : hl1.2.2 y 4 = some q_12) (f_20 : hl1.2.2 y 5 = some q_17) (f_25 : hl1.2.2 y 6 = some q_22) (f_30 : hl1.2.2 y 12 = some q_27) (f_35 : hl1.2.2 y 15 = some q_32) (f_225 : hl1.2.2 y 21 = some q_222) (f_230 : hl1.2.2 y 22 = some q_227) (f_235 : hl1.2.2 y 23 = some q_232) (f_240 : hl1.2.2 y 24 = some q_237) (f_245 : hl1.2.2 y 25 = some q_242) (f_250 : hl1.2.2 y 26 = some q_247) (f_475 : hl1.2.2 y 82 = some q_472)  (gy : hx_g L1 hl1 y 10) (gq_2 : hx_g L1 hl1 q_2 49) (gq_7 : hx_g L1 hl1 q_7 50) (gq_12 : hx_g L1 hl1 q_12 51) (gq_17 : hx_g L1 hl1 q_17 52) (gq_22 : hx_g L1 hl1 q_22 53) (gq_27 : hx_g L1 hl1 q_27 54) (gq_32 : hx_g L1 hl1 q_32 55) (gq_222 : hx_g L1 hl1 q_222 58) (gq_227 : hx_g L1 hl1 q_227 59) (gq_232 : hx_g L1 hl1 q_232 60) (gq_237 : hx_g L1 hl1 q_237 61) (gq_242 : hx_g L1 hl1 q_242 62) (gq_247 : hx_g L1 hl1 q_247 63) (gq_472 : hx_g L1 hl1 q_472 108) (gq_502 : hx_g L1 hl1 q_502 114) (hl : lv_has ls 2 [(0, .ref y)]) : W p l e ({ frames := 2, cells := 67, slots := 15340, locals := 42 }) s m ([.ref y] : List Value).toArray below meth c H locs 66 15279 (MQ below (va_Qv (fun (u : List Nat × hx_h) => hx_S P_tb [(10, 2), (10, 3), (10, 4), (10, 5), (10, 6), (10, 12), (10, 14), (10, 15), (10, 16), (10, 17), (10, 18), (10, 19), (10, 21), (10, 22), (10, 23), (10, 24), (10, 25), (10, 26), (10, 27), (10, 28), (10, 30), (10, 31), (10, 32), (10, 33), (10, 34), (10, 35), (10, 37), (10, 38), (10, 39), (10, 40), (10, 41), (10, 42), (10, 43), (10, 44), (10, 45), (10, 46), (10, 47), (10, 48), (10, 49), (10, 50), (10, 51), (10, 52), (10, 53), (10, 54), (10, 55), (10, 56), (10, 58), (10, 60), (10, 61), (10, 62), (10, 63), (10, 64), (10, 65), (10, 66), (10, 73), (10, 74), (10, 76), (10, 77), (10, 78), (10, 79), (10, 80), (10, 81), (10, 82), (10, 85), (10, 88), (10, 89), (10, 91), (10, 93), (10, 94), (10, 97), (50, 0), (51, 0), (52, 0), (55, 0), (57, 0)] L h u.1 u.2 ∧ (∃ q, u.2.2.2 y 2 = some q ∧ hx_g u.1 u.2 q 49) ∧ (∃ q, u.2.2.2 y 3 = some q ∧ hx_g u.1 u.2 q 50 ∧ (∀ j, j < 13 → u.2.2.1 q j = P_w1 j)) ∧ (∃ q, u.2.2.2 y 4 = some q ∧ hx_g u.1 u.2 q 51) ∧ (∃ q, u.2.2.2 y 5 = some q ∧ hx_g u.1 u.2 q 52) ∧ (∃ q, u.2.2.2 y 6 = some q ∧ hx_g u.1 u.2 q 53) ∧ (∃ q, u.2.2.2 y 12 = some q ∧ hx_g u.1 u.2 q 54) ∧ (∃ q, u.2.2.2 y 15 = some q ∧ hx_g u.1 u.2 q 55) ∧ (∃ q, u.2.2.2 y 21 = some q ∧ hx_g u.1 u.2 q 58) ∧ (∃ q, u.2.2.2 y 22 = some q ∧ hx_g u.1 u.2 q 59) ∧ (∃ q, u.2.2.2 y 23 = some q ∧ hx_g u.1 u.2 q 60) ∧ (∃ q, u.2.2.2 y 24 = some q ∧ hx_g u.1 u.2 q 61) ∧ (∃ q, u.2.2.2 y 25 = some q ∧ hx_g u.1 u.2 q 62) ∧ (∃ q, u.2.2.2 y 26 = some q ∧ hx_g u.1 u.2 q 63) ∧ (∃ q, u.2.2.2 y 82 = some q ∧ hx_g u.1 u.2 q 108) ∧ (∃ q, u.2.2.2 y 94 = some q ∧ hx_g u.1 u.2 q 114)) (hx_E P_tb (P_ty dA) (dC, dI) vwCl (hx_A L sz)) (hx_A L sz)) ([.ref y] : List Value).toArray s 67 15340 (hx_A L sz)) (F0 m 1576 ls [.ref q_502, .ref y]) := by
  refine hk_putrF hx hb hts hC_10 hown hW gy td_10 94 (by decide) rfl kw_1237 ⟨rfl, rfl, rfl⟩ rfl hin rfl (x := (some q_502)) rfl rfl rfl dX10_init_1576 (fun H locs h_504 eh_504 hW hs => ?_)
  have f_5 := (hs.o gy trivial rfl).2.trans f_5
  have f_10 := (hs.o gy trivial rfl).2.trans f_10
  have f_15 := (hs.o gy trivial rfl).2.trans f_15
  have f_20 := (hs.o gy trivial rfl).2.trans f_20
  have f_25 := (hs.o gy trivial rfl).2.trans f_25
  have f_30 := (hs.o gy trivial rfl).2.trans f_30
  have f_35 := (hs.o gy trivial rfl).2.trans f_35
  have f_225 := (hs.o gy trivial rfl).2.trans f_225
  have f_230 := (hs.o gy trivial rfl).2.trans f_230
  have f_235 := (hs.o gy trivial rfl).2.trans f_235
  have f_240 := (hs.o gy trivial rfl).2.trans f_240
  have f_245 := (hs.o gy trivial rfl).2.trans f_245
  have f_250 := (hs.o gy trivial rfl).2.trans f_250
  have f_475 := (hs.o gy trivial rfl).2.trans f_475
  have hM := hM.tr (hs.mono (by decide))
  have gy := gy.S hs
  have gq_2 := gq_2.S hs
  have gq_7 := gq_7.S hs
  have gq_12 := gq_12.S hs
  have gq_17 := gq_17.S hs
  have gq_22 := gq_22.S hs
  have gq_27 := gq_27.S hs
  have gq_32 := gq_32.S hs
  have gq_222 := gq_222.S hs
  have gq_227 := gq_227.S hs
  have gq_232 := gq_232.S hs
  have gq_237 := gq_237.S hs
  have gq_242 := gq_242.S hs
  have gq_247 := gq_247.S hs
  have gq_472 := gq_472.S hs
  have gq_502 := gq_502.S hs
  have f_505 : h_504.2.2 y 94 = (some q_502) := by rw [eh_504]; exact hx_pr_at _ _ _ _
  refine lv_aload_n hx hb dX10_init_1579 rfl (lv_at hl 0 rfl) ?_
  refine lv_bipush (v := 61) hx hb dX10_init_1580 (by decide) ?_
  refine hk_newl hx hb hts hW kw_1438 (i := (61 : Int32)) (n0 := 61) (by decide) (Nat.le_of_ble_eq_true rfl) (Nat.le_of_ble_eq_true rfl) (Nat.le_of_ble_eq_true rfl) dX10_init_1582 (fun q_506 H hW => ?_)
  refine hk_putrF hx hb hts hC_10 hown hW gy td_10 97 (by decide) rfl kw_1240 ⟨rfl, rfl, rfl⟩ rfl hin rfl (x := (some q_506)) rfl rfl rfl dX10_init_1584 (fun H locs h_507 eh_507 hW hs => ?_)
  have f_5 := (hs.o gy trivial rfl).2.trans f_5
  have f_10 := (hs.o gy trivial rfl).2.trans f_10
  have f_15 := (hs.o gy trivial rfl).2.trans f_15
  have f_20 := (hs.o gy trivial rfl).2.trans f_20
  have f_25 := (hs.o gy trivial rfl).2.trans f_25
  have f_30 := (hs.o gy trivial rfl).2.trans f_30
  have f_35 := (hs.o gy trivial rfl).2.trans f_35
  have f_225 := (hs.o gy trivial rfl).2.trans f_225
  have f_230 := (hs.o gy trivial rfl).2.trans f_230
  have f_235 := (hs.o gy trivial rfl).2.trans f_235
  have f_240 := (hs.o gy trivial rfl).2.trans f_240
  have f_245 := (hs.o gy trivial rfl).2.trans f_245
  have f_250 := (hs.o gy trivial rfl).2.trans f_250
  have f_475 := (hs.o gy trivial rfl).2.trans f_475
  have f_505 := (hs.o gy trivial rfl).2.trans f_505
  have hM := hM.tr (hs.mono (by decide))
  have gy := gy.S hs
  have gq_2 := gq_2.S hs
  have gq_7 := gq_7.S hs
  have gq_12 := gq_12.S hs
  have gq_17 := gq_17.S hs
  have gq_22 := gq_22.S hs
  have gq_27 := gq_27.S hs
  have gq_32 := gq_32.S hs
  have gq_222 := gq_222.S hs
  have gq_227 := gq_227.S hs
  have gq_232 := gq_232.S hs
  have gq_237 := gq_237.S hs
  have gq_242 := gq_242.S hs
  have gq_247 := gq_247.S hs
  have gq_472 := gq_472.S hs
  have gq_502 := gq_502.S hs
  have f_508 : h_507.2.2 y 97 = (some q_506) := by rw [eh_507]; exact hx_pr_at _ _ _ _
  refine lv_iconst (v := 0) hx hb dX10_init_1587 (by decide) ?_
  refine lv_istore_n (lv' := [(1, .int (0 : Int32)), (0, .ref y)]) hx hb dX10_init_1588 rfl hl (by decide) rfl (fun ls hl => ?_)
  refine lv_iload_n hx hb dX10_init_1589 rfl (lv_at hl 0 rfl) ?_
  refine lv_bipush (v := 13) hx hb dX10_init_1590 (by decide) ?_
  refine hb_icmp_ge (zx := 0) (zy := 13) (tgt := 1611) hx hb (by decide) (by decide) dX10_init_1592 (by decide) (fun c_509 => absurd c_509 (by decide)) (fun c_509 => ?_)
  refine lv_aload_n hx hb dX10_init_1595 rfl (lv_at hl 1 rfl) ?_
  refine hk_getr hx hb hts hC_10 hown hW gy td_10 3 (by decide) rfl kw_1146 ⟨rfl, rfl, rfl⟩ f_10 dX10_init_1596 ?_
  refine lv_iload_n hx hb dX10_init_1599 rfl (lv_at hl 0 rfl) ?_
  refine lv_iload_n hx hb dX10_init_1600 rfl (lv_at hl 0 rfl) ?_
  refine hx_goi (hx_runS (As := [.int (0 : Int32)]) (rest := [.int (0 : Int32), .ref q_7]) ⟨hx, hb, hml, hown, hts⟩ hW (c_X10_without_0 l dC dI dA L1 h_507 H.size ) (va_cwS 1 hts (hx_gS kw_1121 kw_1119 kw_1120 kw_103) rfl rfl rfl (by decide +kernel) ⟨Nat.le_of_ble_eq_true rfl, Nat.le_of_ble_eq_true rfl⟩) rfl hl.1 rfl (Nat.le_of_ble_eq_true rfl) dX10_init_1601 ⟨Nat.le_of_ble_eq_true rfl, Nat.le_of_ble_eq_true rfl⟩) hW (fun r_512 L_510 h_511 H locs p_513 hW => ?_)
  obtain ⟨rfl, eu⟩ := p_513
  cases eu
  refine hk_iast hx hb hW gq_7 td_50 rfl (by decide) rfl dX10_init_1604 (fun H locs h_514 eh_514 hW hs => ?_)
  have f_5 := (hs.o gy trivial rfl).2.trans f_5
  have f_10 := (hs.o gy trivial rfl).2.trans f_10
  have f_15 := (hs.o gy trivial rfl).2.trans f_15
  have f_20 := (hs.o gy trivial rfl).2.trans f_20
  have f_25 := (hs.o gy trivial rfl).2.trans f_25
  have f_30 := (hs.o gy trivial rfl).2.trans f_30
  have f_35 := (hs.o gy trivial rfl).2.trans f_35
  have f_225 := (hs.o gy trivial rfl).2.trans f_225
  have f_230 := (hs.o gy trivial rfl).2.trans f_230
  have f_235 := (hs.o gy trivial rfl).2.trans f_235
  have f_240 := (hs.o gy trivial rfl).2.trans f_240
  have f_245 := (hs.o gy trivial rfl).2.trans f_245
  have f_250 := (hs.o gy trivial rfl).2.trans f_250
  have f_475 := (hs.o gy trivial rfl).2.trans f_475
  have f_505 := (hs.o gy trivial rfl).2.trans f_505
  have hM := hM.tr (hs.mono (by decide))
  have gy := gy.S hs
  have gq_2 := gq_2.S hs
  have gq_7 := gq_7.S hs
  have gq_12 := gq_12.S hs
  have gq_17 := gq_17.S hs
  have gq_22 := gq_22.S hs
  have gq_27 := gq_27.S hs
  have gq_32 := gq_32.S hs
  have gq_222 := gq_222.S hs
  have gq_227 := gq_227.S hs
  have gq_232 := gq_232.S hs
  have gq_237 := gq_237.S hs
  have gq_242 := gq_242.S hs
  have gq_247 := gq_247.S hs
  have gq_472 := gq_472.S hs
  have gq_502 := gq_502.S hs
  have f_515 : h_514.2.1 q_7 (0 : Int32).toNatClampNeg = (480 : Int32) := by rw [eh_514]; exact hx_pi_at _ _ _ _
  refine lv_iinc (v := 1) (lv' := [(1, .int (1 : Int32)), (0, .ref y)]) hx hb dX10_init_1605 hl (k := 0) rfl (by decide) (by decide) rfl (fun ls hl => ?_)
  refine lv_goto (tgt := 1589) hx hb dX10_init_1608 (by decide) ?_
  refine lv_iload_n hx hb dX10_init_1589 rfl (lv_at hl 0 rfl) ?_
  refine lv_bipush (v := 13) hx hb dX10_init_1590 (by decide) ?_
  refine hb_icmp_ge (zx := 1) (zy := 13) (tgt := 1611) hx hb (by decide) (by decide) dX10_init_1592 (by decide) (fun c_516 => absurd c_516 (by decide)) (fun c_516 => ?_)
  refine lv_aload_n hx hb dX10_init_1595 rfl (lv_at hl 1 rfl) ?_
  refine hk_getr hx hb hts hC_10 hown hW gy td_10 3 (by decide) rfl kw_1146 ⟨rfl, rfl, rfl⟩ f_10 dX10_init_1596 ?_
  refine lv_iload_n hx hb dX10_init_1599 rfl (lv_at hl 0 rfl) ?_
  refine lv_iload_n hx hb dX10_init_1600 rfl (lv_at hl 0 rfl) ?_
  refine hx_goi (hx_runS (As := [.int (1 : Int32)]) (rest := [.int (1 : Int32), .ref q_7]) ⟨hx, hb, hml, hown, hts⟩ hW (c_X10_without_1 l dC dI dA L1 h_514 H.size ) (va_cwS 1 hts (hx_gS kw_1121 kw_1119 kw_1120 kw_103) rfl rfl rfl (by decide +kernel) ⟨Nat.le_of_ble_eq_true rfl, Nat.le_of_ble_eq_true rfl⟩) rfl hl.1 rfl (Nat.le_of_ble_eq_true rfl) dX10_init_1601 ⟨Nat.le_of_ble_eq_true rfl, Nat.le_of_ble_eq_true rfl⟩) hW (fun r_519 L_517 h_518 H locs p_520 hW => ?_)
  obtain ⟨rfl, eu⟩ := p_520
  cases eu
  refine hk_iast hx hb hW gq_7 td_50 rfl (by decide) rfl dX10_init_1604 (fun H locs h_521 eh_521 hW hs => ?_)
  have f_5 := (hs.o gy trivial rfl).2.trans f_5
  have f_10 := (hs.o gy trivial rfl).2.trans f_10
  have f_15 := (hs.o gy trivial rfl).2.trans f_15
  have f_20 := (hs.o gy trivial rfl).2.trans f_20
  have f_25 := (hs.o gy trivial rfl).2.trans f_25
  have f_30 := (hs.o gy trivial rfl).2.trans f_30
  have f_35 := (hs.o gy trivial rfl).2.trans f_35
  have f_225 := (hs.o gy trivial rfl).2.trans f_225
  have f_230 := (hs.o gy trivial rfl).2.trans f_230
  have f_235 := (hs.o gy trivial rfl).2.trans f_235
  have f_240 := (hs.o gy trivial rfl).2.trans f_240
  have f_245 := (hs.o gy trivial rfl).2.trans f_245
  have f_250 := (hs.o gy trivial rfl).2.trans f_250
  have f_475 := (hs.o gy trivial rfl).2.trans f_475
  have f_505 := (hs.o gy trivial rfl).2.trans f_505
  have hM := hM.tr (hs.mono (by decide))
  have gy := gy.S hs
  have gq_2 := gq_2.S hs
  have gq_7 := gq_7.S hs
  have gq_12 := gq_12.S hs
  have gq_17 := gq_17.S hs
  have gq_22 := gq_22.S hs
  have gq_27 := gq_27.S hs
  have gq_32 := gq_32.S hs
  have gq_222 := gq_222.S hs
  have gq_227 := gq_227.S hs
  have gq_232 := gq_232.S hs
  have gq_237 := gq_237.S hs
  have gq_242 := gq_242.S hs
  have gq_247 := gq_247.S hs
  have gq_472 := gq_472.S hs
  have gq_502 := gq_502.S hs
  have f_515 : h_521.2.1 q_7 (0 : Int32).toNatClampNeg = (480 : Int32) := by rw [eh_521]; exact (hx_pi_ne _ _ (fun z => absurd z.2 (by decide))).trans f_515
  have f_522 : h_521.2.1 q_7 (1 : Int32).toNatClampNeg = (30 : Int32) := by rw [eh_521]; exact hx_pi_at _ _ _ _
  refine W.widen (k := 67) (n := 15340) (Nat.le_of_ble_eq_true rfl) (Nat.le_of_ble_eq_true rfl) ?_
  exact sg_X10_init_27 l dC dI dA L h sz y q_2 q_7 q_12 q_17 q_22 q_27 q_32 q_222 q_227 q_232 q_237 q_242 q_247 q_472 q_502 hx hb hml hr hlk hts hown hin hsz L1 h_521 _ _ ls hW hM f_5 f_10 f_15 f_20 f_25 f_30 f_35 f_225 f_230 f_235 f_240 f_245 f_250 f_475 f_505 f_515 f_522  gy gq_2 gq_7 gq_12 gq_17 gq_22 gq_27 gq_32 gq_222 gq_227 gq_232 gq_237 gq_242 gq_247 gq_472 gq_502 hl

set_option maxHeartbeats 4000000 in
set_option maxRecDepth 100000 in
theorem sg_X10_init_25 (l : Launch) (dC : Nat → ClassId) (dI : Nat → Nat → Nat) (dA : Nat → ClassId) (L : List Nat) (h : hx_h) (sz : Nat) (y : Nat) (q_2 q_7 q_12 q_17 q_22 q_27 q_32 q_222 q_227 q_232 q_237 q_242 q_247 q_472 : Nat) {p : Program} {e : Env} {s : State} {m : MethodId} {below : List Frame} {meth : Method} {c : Code} (hx : p.tables.exec = Jvm.exec) (hb : c.code = cX10_init) (hml : c.maxLocals = 2) (hr : meth.sig.returnType = none) (hlk : meth.locks = false) (hts : ∀ w ∈ hx_all, w.before ([.ref y] : List Value).toArray s = true) (hown : s.vm.findClass "SmallCourtModel" = some m.cls) (hin : meth.name = "<init>") (hsz : s.heap.size = sz) (L1 : List Nat) (hl1 : hx_h) (H : Heap) (locs : List Loc) (ls : Array Slot) (hW : hx_W P_tb (P_ty dA) (dC, dI) vwCl (hx_A L sz) s.heap L1 hl1 s H locs) (hM : hx_S P_tb [(10, 2), (10, 3), (10, 4), (10, 5), (10, 6), (10, 12), (10, 14), (10, 15), (10, 16), (10, 17), (10, 18), (10, 19), (10, 21), (10, 22), (10, 23), (10, 24), (10, 25), (10, 26), (10, 27), (10, 28), (10, 30), (10, 31), (10, 32), (10, 33), (10, 34), (10, 35), (10, 37), (10, 38), (10, 39), (10, 40), (10, 41), (10, 42), (10, 43), (10, 44), (10, 45), (10, 46), (10, 47), (10, 48), (10, 49), (10, 50), (10, 51), (10, 52), (10, 53), (10, 54), (10, 55), (10, 56), (10, 58), (10, 60), (10, 61), (10, 62), (10, 63), (10, 64), (10, 65), (10, 66), (10, 73), (10, 74), (10, 76), (10, 77), (10, 78), (10, 79), (10, 80), (10, 81), (10, 82), (10, 85), (10, 88), (10, 89), (10, 91), (10, 93), (10, 94), (10, 97), (50, 0), (51, 0), (52, 0), (55, 0), (57, 0)] L h L1 hl1) (f_5 : hl1.2.2 y 2 = some q_2) (f_10 : hl1.2.2 y 3 = some q_7) (f_15 : hl1.2.2 y 4 = some q_12) (f_20 : hl1.2.2 y 5 = some q_17) (f_25 : hl1.2.2 y 6 = some q_22) (f_30 : hl1.2.2 y 12 = some q_27) (f_35 : hl1.2.2 y 15 = some q_32) (f_225 : hl1.2.2 y 21 = some q_222) (f_230 : hl1.2.2 y 22 = some q_227) (f_235 : hl1.2.2 y 23 = some q_232) (f_240 : hl1.2.2 y 24 = some q_237) (f_245 : hl1.2.2 y 25 = some q_242) (f_250 : hl1.2.2 y 26 = some q_247) (f_475 : hl1.2.2 y 82 = some q_472)  (gy : hx_g L1 hl1 y 10) (gq_2 : hx_g L1 hl1 q_2 49) (gq_7 : hx_g L1 hl1 q_7 50) (gq_12 : hx_g L1 hl1 q_12 51) (gq_17 : hx_g L1 hl1 q_17 52) (gq_22 : hx_g L1 hl1 q_22 53) (gq_27 : hx_g L1 hl1 q_27 54) (gq_32 : hx_g L1 hl1 q_32 55) (gq_222 : hx_g L1 hl1 q_222 58) (gq_227 : hx_g L1 hl1 q_227 59) (gq_232 : hx_g L1 hl1 q_232 60) (gq_237 : hx_g L1 hl1 q_237 61) (gq_242 : hx_g L1 hl1 q_242 62) (gq_247 : hx_g L1 hl1 q_247 63) (gq_472 : hx_g L1 hl1 q_472 108) (hl : lv_has ls 2 [(0, .ref y)]) : W p l e ({ frames := 2, cells := 67, slots := 15340, locals := 42 }) s m ([.ref y] : List Value).toArray below meth c H locs 63 12959 (MQ below (va_Qv (fun (u : List Nat × hx_h) => hx_S P_tb [(10, 2), (10, 3), (10, 4), (10, 5), (10, 6), (10, 12), (10, 14), (10, 15), (10, 16), (10, 17), (10, 18), (10, 19), (10, 21), (10, 22), (10, 23), (10, 24), (10, 25), (10, 26), (10, 27), (10, 28), (10, 30), (10, 31), (10, 32), (10, 33), (10, 34), (10, 35), (10, 37), (10, 38), (10, 39), (10, 40), (10, 41), (10, 42), (10, 43), (10, 44), (10, 45), (10, 46), (10, 47), (10, 48), (10, 49), (10, 50), (10, 51), (10, 52), (10, 53), (10, 54), (10, 55), (10, 56), (10, 58), (10, 60), (10, 61), (10, 62), (10, 63), (10, 64), (10, 65), (10, 66), (10, 73), (10, 74), (10, 76), (10, 77), (10, 78), (10, 79), (10, 80), (10, 81), (10, 82), (10, 85), (10, 88), (10, 89), (10, 91), (10, 93), (10, 94), (10, 97), (50, 0), (51, 0), (52, 0), (55, 0), (57, 0)] L h u.1 u.2 ∧ (∃ q, u.2.2.2 y 2 = some q ∧ hx_g u.1 u.2 q 49) ∧ (∃ q, u.2.2.2 y 3 = some q ∧ hx_g u.1 u.2 q 50 ∧ (∀ j, j < 13 → u.2.2.1 q j = P_w1 j)) ∧ (∃ q, u.2.2.2 y 4 = some q ∧ hx_g u.1 u.2 q 51) ∧ (∃ q, u.2.2.2 y 5 = some q ∧ hx_g u.1 u.2 q 52) ∧ (∃ q, u.2.2.2 y 6 = some q ∧ hx_g u.1 u.2 q 53) ∧ (∃ q, u.2.2.2 y 12 = some q ∧ hx_g u.1 u.2 q 54) ∧ (∃ q, u.2.2.2 y 15 = some q ∧ hx_g u.1 u.2 q 55) ∧ (∃ q, u.2.2.2 y 21 = some q ∧ hx_g u.1 u.2 q 58) ∧ (∃ q, u.2.2.2 y 22 = some q ∧ hx_g u.1 u.2 q 59) ∧ (∃ q, u.2.2.2 y 23 = some q ∧ hx_g u.1 u.2 q 60) ∧ (∃ q, u.2.2.2 y 24 = some q ∧ hx_g u.1 u.2 q 61) ∧ (∃ q, u.2.2.2 y 25 = some q ∧ hx_g u.1 u.2 q 62) ∧ (∃ q, u.2.2.2 y 26 = some q ∧ hx_g u.1 u.2 q 63) ∧ (∃ q, u.2.2.2 y 82 = some q ∧ hx_g u.1 u.2 q 108) ∧ (∃ q, u.2.2.2 y 94 = some q ∧ hx_g u.1 u.2 q 114)) (hx_E P_tb (P_ty dA) (dC, dI) vwCl (hx_A L sz)) (hx_A L sz)) ([.ref y] : List Value).toArray s 67 15340 (hx_A L sz)) (F0 m 1554 ls []) := by
  refine lv_aload_n hx hb dX10_init_1554 rfl (lv_at hl 0 rfl) ?_
  refine lv_bipush (v := 8) hx hb dX10_init_1555 (by decide) ?_
  refine hk_newa hx hb hts hW 112 td_112 (atype := .int) rfl kw_186 (tys := P_ty dA) (t0 := 0) rfl (fun _ => Iff.rfl) rfl (i := (8 : Int32)) (by decide) (Nat.le_of_ble_eq_true rfl) (Nat.le_of_ble_eq_true rfl) (Nat.le_of_ble_eq_true rfl) dX10_init_1557 (fun q_492 H h_491 eh_491 hqq_492 hW hs gq_492 => ?_)
  have f_5 := (hs.o gy trivial rfl).2.trans f_5
  have f_10 := (hs.o gy trivial rfl).2.trans f_10
  have f_15 := (hs.o gy trivial rfl).2.trans f_15
  have f_20 := (hs.o gy trivial rfl).2.trans f_20
  have f_25 := (hs.o gy trivial rfl).2.trans f_25
  have f_30 := (hs.o gy trivial rfl).2.trans f_30
  have f_35 := (hs.o gy trivial rfl).2.trans f_35
  have f_225 := (hs.o gy trivial rfl).2.trans f_225
  have f_230 := (hs.o gy trivial rfl).2.trans f_230
  have f_235 := (hs.o gy trivial rfl).2.trans f_235
  have f_240 := (hs.o gy trivial rfl).2.trans f_240
  have f_245 := (hs.o gy trivial rfl).2.trans f_245
  have f_250 := (hs.o gy trivial rfl).2.trans f_250
  have f_475 := (hs.o gy trivial rfl).2.trans f_475
  have hM := hM.tr (hs.mono (by decide))
  have gy := gy.S hs
  have gq_2 := gq_2.S hs
  have gq_7 := gq_7.S hs
  have gq_12 := gq_12.S hs
  have gq_17 := gq_17.S hs
  have gq_22 := gq_22.S hs
  have gq_27 := gq_27.S hs
  have gq_32 := gq_32.S hs
  have gq_222 := gq_222.S hs
  have gq_227 := gq_227.S hs
  have gq_232 := gq_232.S hs
  have gq_237 := gq_237.S hs
  have gq_242 := gq_242.S hs
  have gq_247 := gq_247.S hs
  have gq_472 := gq_472.S hs
  have f_493 : (∀ j, h_491.2.1 q_492 j = 0) ∧ ∀ j, h_491.2.2 q_492 j = none := by rw [eh_491]; exact ⟨fun _ => hx_nw_i, fun _ => hx_nw_r⟩
  refine hk_putrF hx hb hts hC_10 hown hW gy td_10 91 (by decide) rfl kw_1234 ⟨rfl, rfl, rfl⟩ rfl hin rfl (x := (some q_492)) rfl rfl rfl dX10_init_1559 (fun H locs h_494 eh_494 hW hs => ?_)
  have f_5 := (hs.o gy trivial rfl).2.trans f_5
  have f_10 := (hs.o gy trivial rfl).2.trans f_10
  have f_15 := (hs.o gy trivial rfl).2.trans f_15
  have f_20 := (hs.o gy trivial rfl).2.trans f_20
  have f_25 := (hs.o gy trivial rfl).2.trans f_25
  have f_30 := (hs.o gy trivial rfl).2.trans f_30
  have f_35 := (hs.o gy trivial rfl).2.trans f_35
  have f_225 := (hs.o gy trivial rfl).2.trans f_225
  have f_230 := (hs.o gy trivial rfl).2.trans f_230
  have f_235 := (hs.o gy trivial rfl).2.trans f_235
  have f_240 := (hs.o gy trivial rfl).2.trans f_240
  have f_245 := (hs.o gy trivial rfl).2.trans f_245
  have f_250 := (hs.o gy trivial rfl).2.trans f_250
  have f_475 := (hs.o gy trivial rfl).2.trans f_475
  have f_493 : _ ∧ _ := ⟨fun j => (hs.a gq_492 rfl j).1.trans (f_493.1 j), fun j => (hs.a gq_492 rfl j).2.trans (f_493.2 j)⟩
  have hM := hM.tr (hs.mono (by decide))
  have gy := gy.S hs
  have gq_2 := gq_2.S hs
  have gq_7 := gq_7.S hs
  have gq_12 := gq_12.S hs
  have gq_17 := gq_17.S hs
  have gq_22 := gq_22.S hs
  have gq_27 := gq_27.S hs
  have gq_32 := gq_32.S hs
  have gq_222 := gq_222.S hs
  have gq_227 := gq_227.S hs
  have gq_232 := gq_232.S hs
  have gq_237 := gq_237.S hs
  have gq_242 := gq_242.S hs
  have gq_247 := gq_247.S hs
  have gq_472 := gq_472.S hs
  have gq_492 := gq_492.S hs
  have f_495 : h_494.2.2 y 91 = (some q_492) := by rw [eh_494]; exact hx_pr_at _ _ _ _
  refine lv_aload_n hx hb dX10_init_1562 rfl (lv_at hl 0 rfl) ?_
  refine lv_bipush (v := 8) hx hb dX10_init_1563 (by decide) ?_
  refine hk_newa hx hb hts hW 113 td_113 (atype := .int) rfl kw_186 (tys := P_ty dA) (t0 := 0) rfl (fun _ => Iff.rfl) rfl (i := (8 : Int32)) (by decide) (Nat.le_of_ble_eq_true rfl) (Nat.le_of_ble_eq_true rfl) (Nat.le_of_ble_eq_true rfl) dX10_init_1565 (fun q_497 H h_496 eh_496 hqq_497 hW hs gq_497 => ?_)
  have f_5 := (hs.o gy trivial rfl).2.trans f_5
  have f_10 := (hs.o gy trivial rfl).2.trans f_10
  have f_15 := (hs.o gy trivial rfl).2.trans f_15
  have f_20 := (hs.o gy trivial rfl).2.trans f_20
  have f_25 := (hs.o gy trivial rfl).2.trans f_25
  have f_30 := (hs.o gy trivial rfl).2.trans f_30
  have f_35 := (hs.o gy trivial rfl).2.trans f_35
  have f_225 := (hs.o gy trivial rfl).2.trans f_225
  have f_230 := (hs.o gy trivial rfl).2.trans f_230
  have f_235 := (hs.o gy trivial rfl).2.trans f_235
  have f_240 := (hs.o gy trivial rfl).2.trans f_240
  have f_245 := (hs.o gy trivial rfl).2.trans f_245
  have f_250 := (hs.o gy trivial rfl).2.trans f_250
  have f_475 := (hs.o gy trivial rfl).2.trans f_475
  have hM := hM.tr (hs.mono (by decide))
  have gy := gy.S hs
  have gq_2 := gq_2.S hs
  have gq_7 := gq_7.S hs
  have gq_12 := gq_12.S hs
  have gq_17 := gq_17.S hs
  have gq_22 := gq_22.S hs
  have gq_27 := gq_27.S hs
  have gq_32 := gq_32.S hs
  have gq_222 := gq_222.S hs
  have gq_227 := gq_227.S hs
  have gq_232 := gq_232.S hs
  have gq_237 := gq_237.S hs
  have gq_242 := gq_242.S hs
  have gq_247 := gq_247.S hs
  have gq_472 := gq_472.S hs
  have f_498 : (∀ j, h_496.2.1 q_497 j = 0) ∧ ∀ j, h_496.2.2 q_497 j = none := by rw [eh_496]; exact ⟨fun _ => hx_nw_i, fun _ => hx_nw_r⟩
  refine hk_putrF hx hb hts hC_10 hown hW gy td_10 93 (by decide) rfl kw_1236 ⟨rfl, rfl, rfl⟩ rfl hin rfl (x := (some q_497)) rfl rfl rfl dX10_init_1567 (fun H locs h_499 eh_499 hW hs => ?_)
  have f_5 := (hs.o gy trivial rfl).2.trans f_5
  have f_10 := (hs.o gy trivial rfl).2.trans f_10
  have f_15 := (hs.o gy trivial rfl).2.trans f_15
  have f_20 := (hs.o gy trivial rfl).2.trans f_20
  have f_25 := (hs.o gy trivial rfl).2.trans f_25
  have f_30 := (hs.o gy trivial rfl).2.trans f_30
  have f_35 := (hs.o gy trivial rfl).2.trans f_35
  have f_225 := (hs.o gy trivial rfl).2.trans f_225
  have f_230 := (hs.o gy trivial rfl).2.trans f_230
  have f_235 := (hs.o gy trivial rfl).2.trans f_235
  have f_240 := (hs.o gy trivial rfl).2.trans f_240
  have f_245 := (hs.o gy trivial rfl).2.trans f_245
  have f_250 := (hs.o gy trivial rfl).2.trans f_250
  have f_475 := (hs.o gy trivial rfl).2.trans f_475
  have f_498 : _ ∧ _ := ⟨fun j => (hs.a gq_497 rfl j).1.trans (f_498.1 j), fun j => (hs.a gq_497 rfl j).2.trans (f_498.2 j)⟩
  have hM := hM.tr (hs.mono (by decide))
  have gy := gy.S hs
  have gq_2 := gq_2.S hs
  have gq_7 := gq_7.S hs
  have gq_12 := gq_12.S hs
  have gq_17 := gq_17.S hs
  have gq_22 := gq_22.S hs
  have gq_27 := gq_27.S hs
  have gq_32 := gq_32.S hs
  have gq_222 := gq_222.S hs
  have gq_227 := gq_227.S hs
  have gq_232 := gq_232.S hs
  have gq_237 := gq_237.S hs
  have gq_242 := gq_242.S hs
  have gq_247 := gq_247.S hs
  have gq_472 := gq_472.S hs
  have gq_497 := gq_497.S hs
  have f_500 : h_499.2.2 y 93 = (some q_497) := by rw [eh_499]; exact hx_pr_at _ _ _ _
  refine lv_aload_n hx hb dX10_init_1570 rfl (lv_at hl 0 rfl) ?_
  refine lv_sipush (v := 2304) hx hb dX10_init_1571 (by decide) ?_
  refine hk_newa hx hb hts hW 114 td_114 (atype := .int) rfl kw_186 (tys := P_ty dA) (t0 := 0) rfl (fun _ => Iff.rfl) rfl (i := (2304 : Int32)) (by decide) (Nat.le_of_ble_eq_true rfl) (Nat.le_of_ble_eq_true rfl) (Nat.le_of_ble_eq_true rfl) dX10_init_1574 (fun q_502 H h_501 eh_501 hqq_502 hW hs gq_502 => ?_)
  have f_5 := (hs.o gy trivial rfl).2.trans f_5
  have f_10 := (hs.o gy trivial rfl).2.trans f_10
  have f_15 := (hs.o gy trivial rfl).2.trans f_15
  have f_20 := (hs.o gy trivial rfl).2.trans f_20
  have f_25 := (hs.o gy trivial rfl).2.trans f_25
  have f_30 := (hs.o gy trivial rfl).2.trans f_30
  have f_35 := (hs.o gy trivial rfl).2.trans f_35
  have f_225 := (hs.o gy trivial rfl).2.trans f_225
  have f_230 := (hs.o gy trivial rfl).2.trans f_230
  have f_235 := (hs.o gy trivial rfl).2.trans f_235
  have f_240 := (hs.o gy trivial rfl).2.trans f_240
  have f_245 := (hs.o gy trivial rfl).2.trans f_245
  have f_250 := (hs.o gy trivial rfl).2.trans f_250
  have f_475 := (hs.o gy trivial rfl).2.trans f_475
  have hM := hM.tr (hs.mono (by decide))
  have gy := gy.S hs
  have gq_2 := gq_2.S hs
  have gq_7 := gq_7.S hs
  have gq_12 := gq_12.S hs
  have gq_17 := gq_17.S hs
  have gq_22 := gq_22.S hs
  have gq_27 := gq_27.S hs
  have gq_32 := gq_32.S hs
  have gq_222 := gq_222.S hs
  have gq_227 := gq_227.S hs
  have gq_232 := gq_232.S hs
  have gq_237 := gq_237.S hs
  have gq_242 := gq_242.S hs
  have gq_247 := gq_247.S hs
  have gq_472 := gq_472.S hs
  have f_503 : (∀ j, h_501.2.1 q_502 j = 0) ∧ ∀ j, h_501.2.2 q_502 j = none := by rw [eh_501]; exact ⟨fun _ => hx_nw_i, fun _ => hx_nw_r⟩
  refine W.widen (k := 66) (n := 15279) (Nat.le_of_ble_eq_true rfl) (Nat.le_of_ble_eq_true rfl) ?_
  exact sg_X10_init_26 l dC dI dA L h sz y q_2 q_7 q_12 q_17 q_22 q_27 q_32 q_222 q_227 q_232 q_237 q_242 q_247 q_472 q_502 hx hb hml hr hlk hts hown hin hsz (((L1 ++ [q_492]) ++ [q_497]) ++ [q_502]) h_501 _ _ ls hW hM f_5 f_10 f_15 f_20 f_25 f_30 f_35 f_225 f_230 f_235 f_240 f_245 f_250 f_475  gy gq_2 gq_7 gq_12 gq_17 gq_22 gq_27 gq_32 gq_222 gq_227 gq_232 gq_237 gq_242 gq_247 gq_472 gq_502 hl

set_option maxHeartbeats 4000000 in
set_option maxRecDepth 100000 in
theorem sg_X10_init_24 (l : Launch) (dC : Nat → ClassId) (dI : Nat → Nat → Nat) (dA : Nat → ClassId) (L : List Nat) (h : hx_h) (sz : Nat) (y : Nat) (q_2 q_7 q_12 q_17 q_22 q_27 q_32 q_222 q_227 q_232 q_237 q_242 q_247 q_472 q_477 : Nat) {p : Program} {e : Env} {s : State} {m : MethodId} {below : List Frame} {meth : Method} {c : Code} (hx : p.tables.exec = Jvm.exec) (hb : c.code = cX10_init) (hml : c.maxLocals = 2) (hr : meth.sig.returnType = none) (hlk : meth.locks = false) (hts : ∀ w ∈ hx_all, w.before ([.ref y] : List Value).toArray s = true) (hown : s.vm.findClass "SmallCourtModel" = some m.cls) (hin : meth.name = "<init>") (hsz : s.heap.size = sz) (L1 : List Nat) (hl1 : hx_h) (H : Heap) (locs : List Loc) (ls : Array Slot) (hW : hx_W P_tb (P_ty dA) (dC, dI) vwCl (hx_A L sz) s.heap L1 hl1 s H locs) (hM : hx_S P_tb [(10, 2), (10, 3), (10, 4), (10, 5), (10, 6), (10, 12), (10, 14), (10, 15), (10, 16), (10, 17), (10, 18), (10, 19), (10, 21), (10, 22), (10, 23), (10, 24), (10, 25), (10, 26), (10, 27), (10, 28), (10, 30), (10, 31), (10, 32), (10, 33), (10, 34), (10, 35), (10, 37), (10, 38), (10, 39), (10, 40), (10, 41), (10, 42), (10, 43), (10, 44), (10, 45), (10, 46), (10, 47), (10, 48), (10, 49), (10, 50), (10, 51), (10, 52), (10, 53), (10, 54), (10, 55), (10, 56), (10, 58), (10, 60), (10, 61), (10, 62), (10, 63), (10, 64), (10, 65), (10, 66), (10, 73), (10, 74), (10, 76), (10, 77), (10, 78), (10, 79), (10, 80), (10, 81), (10, 82), (10, 85), (10, 88), (10, 89), (10, 91), (10, 93), (10, 94), (10, 97), (50, 0), (51, 0), (52, 0), (55, 0), (57, 0)] L h L1 hl1) (f_5 : hl1.2.2 y 2 = some q_2) (f_10 : hl1.2.2 y 3 = some q_7) (f_15 : hl1.2.2 y 4 = some q_12) (f_20 : hl1.2.2 y 5 = some q_17) (f_25 : hl1.2.2 y 6 = some q_22) (f_30 : hl1.2.2 y 12 = some q_27) (f_35 : hl1.2.2 y 15 = some q_32) (f_225 : hl1.2.2 y 21 = some q_222) (f_230 : hl1.2.2 y 22 = some q_227) (f_235 : hl1.2.2 y 23 = some q_232) (f_240 : hl1.2.2 y 24 = some q_237) (f_245 : hl1.2.2 y 25 = some q_242) (f_250 : hl1.2.2 y 26 = some q_247) (f_475 : hl1.2.2 y 82 = some q_472)  (gy : hx_g L1 hl1 y 10) (gq_2 : hx_g L1 hl1 q_2 49) (gq_7 : hx_g L1 hl1 q_7 50) (gq_12 : hx_g L1 hl1 q_12 51) (gq_17 : hx_g L1 hl1 q_17 52) (gq_22 : hx_g L1 hl1 q_22 53) (gq_27 : hx_g L1 hl1 q_27 54) (gq_32 : hx_g L1 hl1 q_32 55) (gq_222 : hx_g L1 hl1 q_222 58) (gq_227 : hx_g L1 hl1 q_227 59) (gq_232 : hx_g L1 hl1 q_232 60) (gq_237 : hx_g L1 hl1 q_237 61) (gq_242 : hx_g L1 hl1 q_242 62) (gq_247 : hx_g L1 hl1 q_247 63) (gq_472 : hx_g L1 hl1 q_472 108) (gq_477 : hx_g L1 hl1 q_477 109) (hl : lv_has ls 2 [(0, .ref y)]) : W p l e ({ frames := 2, cells := 67, slots := 15340, locals := 42 }) s m ([.ref y] : List Value).toArray below meth c H locs 61 12951 (MQ below (va_Qv (fun (u : List Nat × hx_h) => hx_S P_tb [(10, 2), (10, 3), (10, 4), (10, 5), (10, 6), (10, 12), (10, 14), (10, 15), (10, 16), (10, 17), (10, 18), (10, 19), (10, 21), (10, 22), (10, 23), (10, 24), (10, 25), (10, 26), (10, 27), (10, 28), (10, 30), (10, 31), (10, 32), (10, 33), (10, 34), (10, 35), (10, 37), (10, 38), (10, 39), (10, 40), (10, 41), (10, 42), (10, 43), (10, 44), (10, 45), (10, 46), (10, 47), (10, 48), (10, 49), (10, 50), (10, 51), (10, 52), (10, 53), (10, 54), (10, 55), (10, 56), (10, 58), (10, 60), (10, 61), (10, 62), (10, 63), (10, 64), (10, 65), (10, 66), (10, 73), (10, 74), (10, 76), (10, 77), (10, 78), (10, 79), (10, 80), (10, 81), (10, 82), (10, 85), (10, 88), (10, 89), (10, 91), (10, 93), (10, 94), (10, 97), (50, 0), (51, 0), (52, 0), (55, 0), (57, 0)] L h u.1 u.2 ∧ (∃ q, u.2.2.2 y 2 = some q ∧ hx_g u.1 u.2 q 49) ∧ (∃ q, u.2.2.2 y 3 = some q ∧ hx_g u.1 u.2 q 50 ∧ (∀ j, j < 13 → u.2.2.1 q j = P_w1 j)) ∧ (∃ q, u.2.2.2 y 4 = some q ∧ hx_g u.1 u.2 q 51) ∧ (∃ q, u.2.2.2 y 5 = some q ∧ hx_g u.1 u.2 q 52) ∧ (∃ q, u.2.2.2 y 6 = some q ∧ hx_g u.1 u.2 q 53) ∧ (∃ q, u.2.2.2 y 12 = some q ∧ hx_g u.1 u.2 q 54) ∧ (∃ q, u.2.2.2 y 15 = some q ∧ hx_g u.1 u.2 q 55) ∧ (∃ q, u.2.2.2 y 21 = some q ∧ hx_g u.1 u.2 q 58) ∧ (∃ q, u.2.2.2 y 22 = some q ∧ hx_g u.1 u.2 q 59) ∧ (∃ q, u.2.2.2 y 23 = some q ∧ hx_g u.1 u.2 q 60) ∧ (∃ q, u.2.2.2 y 24 = some q ∧ hx_g u.1 u.2 q 61) ∧ (∃ q, u.2.2.2 y 25 = some q ∧ hx_g u.1 u.2 q 62) ∧ (∃ q, u.2.2.2 y 26 = some q ∧ hx_g u.1 u.2 q 63) ∧ (∃ q, u.2.2.2 y 82 = some q ∧ hx_g u.1 u.2 q 108) ∧ (∃ q, u.2.2.2 y 94 = some q ∧ hx_g u.1 u.2 q 114)) (hx_E P_tb (P_ty dA) (dC, dI) vwCl (hx_A L sz)) (hx_A L sz)) ([.ref y] : List Value).toArray s 67 15340 (hx_A L sz)) (F0 m 1537 ls [.ref q_477, .ref y]) := by
  refine hk_putrF hx hb hts hC_10 hown hW gy td_10 85 (by decide) rfl kw_1228 ⟨rfl, rfl, rfl⟩ rfl hin rfl (x := (some q_477)) rfl rfl rfl dX10_init_1537 (fun H locs h_479 eh_479 hW hs => ?_)
  have f_5 := (hs.o gy trivial rfl).2.trans f_5
  have f_10 := (hs.o gy trivial rfl).2.trans f_10
  have f_15 := (hs.o gy trivial rfl).2.trans f_15
  have f_20 := (hs.o gy trivial rfl).2.trans f_20
  have f_25 := (hs.o gy trivial rfl).2.trans f_25
  have f_30 := (hs.o gy trivial rfl).2.trans f_30
  have f_35 := (hs.o gy trivial rfl).2.trans f_35
  have f_225 := (hs.o gy trivial rfl).2.trans f_225
  have f_230 := (hs.o gy trivial rfl).2.trans f_230
  have f_235 := (hs.o gy trivial rfl).2.trans f_235
  have f_240 := (hs.o gy trivial rfl).2.trans f_240
  have f_245 := (hs.o gy trivial rfl).2.trans f_245
  have f_250 := (hs.o gy trivial rfl).2.trans f_250
  have f_475 := (hs.o gy trivial rfl).2.trans f_475
  have hM := hM.tr (hs.mono (by decide))
  have gy := gy.S hs
  have gq_2 := gq_2.S hs
  have gq_7 := gq_7.S hs
  have gq_12 := gq_12.S hs
  have gq_17 := gq_17.S hs
  have gq_22 := gq_22.S hs
  have gq_27 := gq_27.S hs
  have gq_32 := gq_32.S hs
  have gq_222 := gq_222.S hs
  have gq_227 := gq_227.S hs
  have gq_232 := gq_232.S hs
  have gq_237 := gq_237.S hs
  have gq_242 := gq_242.S hs
  have gq_247 := gq_247.S hs
  have gq_472 := gq_472.S hs
  have gq_477 := gq_477.S hs
  have f_480 : h_479.2.2 y 85 = (some q_477) := by rw [eh_479]; exact hx_pr_at _ _ _ _
  refine lv_aload_n hx hb dX10_init_1540 rfl (lv_at hl 0 rfl) ?_
  refine lv_iconst (v := 4) hx hb dX10_init_1541 (by decide) ?_
  refine hk_newa hx hb hts hW 110 td_110 (atype := .int) rfl kw_186 (tys := P_ty dA) (t0 := 0) rfl (fun _ => Iff.rfl) rfl (i := (4 : Int32)) (by decide) (Nat.le_of_ble_eq_true rfl) (Nat.le_of_ble_eq_true rfl) (Nat.le_of_ble_eq_true rfl) dX10_init_1542 (fun q_482 H h_481 eh_481 hqq_482 hW hs gq_482 => ?_)
  have f_5 := (hs.o gy trivial rfl).2.trans f_5
  have f_10 := (hs.o gy trivial rfl).2.trans f_10
  have f_15 := (hs.o gy trivial rfl).2.trans f_15
  have f_20 := (hs.o gy trivial rfl).2.trans f_20
  have f_25 := (hs.o gy trivial rfl).2.trans f_25
  have f_30 := (hs.o gy trivial rfl).2.trans f_30
  have f_35 := (hs.o gy trivial rfl).2.trans f_35
  have f_225 := (hs.o gy trivial rfl).2.trans f_225
  have f_230 := (hs.o gy trivial rfl).2.trans f_230
  have f_235 := (hs.o gy trivial rfl).2.trans f_235
  have f_240 := (hs.o gy trivial rfl).2.trans f_240
  have f_245 := (hs.o gy trivial rfl).2.trans f_245
  have f_250 := (hs.o gy trivial rfl).2.trans f_250
  have f_475 := (hs.o gy trivial rfl).2.trans f_475
  have hM := hM.tr (hs.mono (by decide))
  have gy := gy.S hs
  have gq_2 := gq_2.S hs
  have gq_7 := gq_7.S hs
  have gq_12 := gq_12.S hs
  have gq_17 := gq_17.S hs
  have gq_22 := gq_22.S hs
  have gq_27 := gq_27.S hs
  have gq_32 := gq_32.S hs
  have gq_222 := gq_222.S hs
  have gq_227 := gq_227.S hs
  have gq_232 := gq_232.S hs
  have gq_237 := gq_237.S hs
  have gq_242 := gq_242.S hs
  have gq_247 := gq_247.S hs
  have gq_472 := gq_472.S hs
  have f_483 : (∀ j, h_481.2.1 q_482 j = 0) ∧ ∀ j, h_481.2.2 q_482 j = none := by rw [eh_481]; exact ⟨fun _ => hx_nw_i, fun _ => hx_nw_r⟩
  refine hk_putrF hx hb hts hC_10 hown hW gy td_10 88 (by decide) rfl kw_1231 ⟨rfl, rfl, rfl⟩ rfl hin rfl (x := (some q_482)) rfl rfl rfl dX10_init_1544 (fun H locs h_484 eh_484 hW hs => ?_)
  have f_5 := (hs.o gy trivial rfl).2.trans f_5
  have f_10 := (hs.o gy trivial rfl).2.trans f_10
  have f_15 := (hs.o gy trivial rfl).2.trans f_15
  have f_20 := (hs.o gy trivial rfl).2.trans f_20
  have f_25 := (hs.o gy trivial rfl).2.trans f_25
  have f_30 := (hs.o gy trivial rfl).2.trans f_30
  have f_35 := (hs.o gy trivial rfl).2.trans f_35
  have f_225 := (hs.o gy trivial rfl).2.trans f_225
  have f_230 := (hs.o gy trivial rfl).2.trans f_230
  have f_235 := (hs.o gy trivial rfl).2.trans f_235
  have f_240 := (hs.o gy trivial rfl).2.trans f_240
  have f_245 := (hs.o gy trivial rfl).2.trans f_245
  have f_250 := (hs.o gy trivial rfl).2.trans f_250
  have f_475 := (hs.o gy trivial rfl).2.trans f_475
  have f_483 : _ ∧ _ := ⟨fun j => (hs.a gq_482 rfl j).1.trans (f_483.1 j), fun j => (hs.a gq_482 rfl j).2.trans (f_483.2 j)⟩
  have hM := hM.tr (hs.mono (by decide))
  have gy := gy.S hs
  have gq_2 := gq_2.S hs
  have gq_7 := gq_7.S hs
  have gq_12 := gq_12.S hs
  have gq_17 := gq_17.S hs
  have gq_22 := gq_22.S hs
  have gq_27 := gq_27.S hs
  have gq_32 := gq_32.S hs
  have gq_222 := gq_222.S hs
  have gq_227 := gq_227.S hs
  have gq_232 := gq_232.S hs
  have gq_237 := gq_237.S hs
  have gq_242 := gq_242.S hs
  have gq_247 := gq_247.S hs
  have gq_472 := gq_472.S hs
  have gq_482 := gq_482.S hs
  have f_485 : h_484.2.2 y 88 = (some q_482) := by rw [eh_484]; exact hx_pr_at _ _ _ _
  refine lv_aload_n hx hb dX10_init_1547 rfl (lv_at hl 0 rfl) ?_
  refine lv_iconst (v := 4) hx hb dX10_init_1548 (by decide) ?_
  refine hk_newa hx hb hts hW 111 td_111 (atype := .int) rfl kw_186 (tys := P_ty dA) (t0 := 0) rfl (fun _ => Iff.rfl) rfl (i := (4 : Int32)) (by decide) (Nat.le_of_ble_eq_true rfl) (Nat.le_of_ble_eq_true rfl) (Nat.le_of_ble_eq_true rfl) dX10_init_1549 (fun q_487 H h_486 eh_486 hqq_487 hW hs gq_487 => ?_)
  have f_5 := (hs.o gy trivial rfl).2.trans f_5
  have f_10 := (hs.o gy trivial rfl).2.trans f_10
  have f_15 := (hs.o gy trivial rfl).2.trans f_15
  have f_20 := (hs.o gy trivial rfl).2.trans f_20
  have f_25 := (hs.o gy trivial rfl).2.trans f_25
  have f_30 := (hs.o gy trivial rfl).2.trans f_30
  have f_35 := (hs.o gy trivial rfl).2.trans f_35
  have f_225 := (hs.o gy trivial rfl).2.trans f_225
  have f_230 := (hs.o gy trivial rfl).2.trans f_230
  have f_235 := (hs.o gy trivial rfl).2.trans f_235
  have f_240 := (hs.o gy trivial rfl).2.trans f_240
  have f_245 := (hs.o gy trivial rfl).2.trans f_245
  have f_250 := (hs.o gy trivial rfl).2.trans f_250
  have f_475 := (hs.o gy trivial rfl).2.trans f_475
  have hM := hM.tr (hs.mono (by decide))
  have gy := gy.S hs
  have gq_2 := gq_2.S hs
  have gq_7 := gq_7.S hs
  have gq_12 := gq_12.S hs
  have gq_17 := gq_17.S hs
  have gq_22 := gq_22.S hs
  have gq_27 := gq_27.S hs
  have gq_32 := gq_32.S hs
  have gq_222 := gq_222.S hs
  have gq_227 := gq_227.S hs
  have gq_232 := gq_232.S hs
  have gq_237 := gq_237.S hs
  have gq_242 := gq_242.S hs
  have gq_247 := gq_247.S hs
  have gq_472 := gq_472.S hs
  have f_488 : (∀ j, h_486.2.1 q_487 j = 0) ∧ ∀ j, h_486.2.2 q_487 j = none := by rw [eh_486]; exact ⟨fun _ => hx_nw_i, fun _ => hx_nw_r⟩
  refine hk_putrF hx hb hts hC_10 hown hW gy td_10 89 (by decide) rfl kw_1232 ⟨rfl, rfl, rfl⟩ rfl hin rfl (x := (some q_487)) rfl rfl rfl dX10_init_1551 (fun H locs h_489 eh_489 hW hs => ?_)
  have f_5 := (hs.o gy trivial rfl).2.trans f_5
  have f_10 := (hs.o gy trivial rfl).2.trans f_10
  have f_15 := (hs.o gy trivial rfl).2.trans f_15
  have f_20 := (hs.o gy trivial rfl).2.trans f_20
  have f_25 := (hs.o gy trivial rfl).2.trans f_25
  have f_30 := (hs.o gy trivial rfl).2.trans f_30
  have f_35 := (hs.o gy trivial rfl).2.trans f_35
  have f_225 := (hs.o gy trivial rfl).2.trans f_225
  have f_230 := (hs.o gy trivial rfl).2.trans f_230
  have f_235 := (hs.o gy trivial rfl).2.trans f_235
  have f_240 := (hs.o gy trivial rfl).2.trans f_240
  have f_245 := (hs.o gy trivial rfl).2.trans f_245
  have f_250 := (hs.o gy trivial rfl).2.trans f_250
  have f_475 := (hs.o gy trivial rfl).2.trans f_475
  have f_488 : _ ∧ _ := ⟨fun j => (hs.a gq_487 rfl j).1.trans (f_488.1 j), fun j => (hs.a gq_487 rfl j).2.trans (f_488.2 j)⟩
  have hM := hM.tr (hs.mono (by decide))
  have gy := gy.S hs
  have gq_2 := gq_2.S hs
  have gq_7 := gq_7.S hs
  have gq_12 := gq_12.S hs
  have gq_17 := gq_17.S hs
  have gq_22 := gq_22.S hs
  have gq_27 := gq_27.S hs
  have gq_32 := gq_32.S hs
  have gq_222 := gq_222.S hs
  have gq_227 := gq_227.S hs
  have gq_232 := gq_232.S hs
  have gq_237 := gq_237.S hs
  have gq_242 := gq_242.S hs
  have gq_247 := gq_247.S hs
  have gq_472 := gq_472.S hs
  have gq_487 := gq_487.S hs
  have f_490 : h_489.2.2 y 89 = (some q_487) := by rw [eh_489]; exact hx_pr_at _ _ _ _
  refine W.widen (k := 63) (n := 12959) (Nat.le_of_ble_eq_true rfl) (Nat.le_of_ble_eq_true rfl) ?_
  exact sg_X10_init_25 l dC dI dA L h sz y q_2 q_7 q_12 q_17 q_22 q_27 q_32 q_222 q_227 q_232 q_237 q_242 q_247 q_472 hx hb hml hr hlk hts hown hin hsz ((L1 ++ [q_482]) ++ [q_487]) h_489 _ _ ls hW hM f_5 f_10 f_15 f_20 f_25 f_30 f_35 f_225 f_230 f_235 f_240 f_245 f_250 f_475  gy gq_2 gq_7 gq_12 gq_17 gq_22 gq_27 gq_32 gq_222 gq_227 gq_232 gq_237 gq_242 gq_247 gq_472 hl

set_option maxHeartbeats 4000000 in
set_option maxRecDepth 100000 in
theorem sg_X10_init_23 (l : Launch) (dC : Nat → ClassId) (dI : Nat → Nat → Nat) (dA : Nat → ClassId) (L : List Nat) (h : hx_h) (sz : Nat) (y : Nat) (q_2 q_7 q_12 q_17 q_22 q_27 q_32 q_222 q_227 q_232 q_237 q_242 q_247 : Nat) {p : Program} {e : Env} {s : State} {m : MethodId} {below : List Frame} {meth : Method} {c : Code} (hx : p.tables.exec = Jvm.exec) (hb : c.code = cX10_init) (hml : c.maxLocals = 2) (hr : meth.sig.returnType = none) (hlk : meth.locks = false) (hts : ∀ w ∈ hx_all, w.before ([.ref y] : List Value).toArray s = true) (hown : s.vm.findClass "SmallCourtModel" = some m.cls) (hin : meth.name = "<init>") (hsz : s.heap.size = sz) (L1 : List Nat) (hl1 : hx_h) (H : Heap) (locs : List Loc) (ls : Array Slot) (hW : hx_W P_tb (P_ty dA) (dC, dI) vwCl (hx_A L sz) s.heap L1 hl1 s H locs) (hM : hx_S P_tb [(10, 2), (10, 3), (10, 4), (10, 5), (10, 6), (10, 12), (10, 14), (10, 15), (10, 16), (10, 17), (10, 18), (10, 19), (10, 21), (10, 22), (10, 23), (10, 24), (10, 25), (10, 26), (10, 27), (10, 28), (10, 30), (10, 31), (10, 32), (10, 33), (10, 34), (10, 35), (10, 37), (10, 38), (10, 39), (10, 40), (10, 41), (10, 42), (10, 43), (10, 44), (10, 45), (10, 46), (10, 47), (10, 48), (10, 49), (10, 50), (10, 51), (10, 52), (10, 53), (10, 54), (10, 55), (10, 56), (10, 58), (10, 60), (10, 61), (10, 62), (10, 63), (10, 64), (10, 65), (10, 66), (10, 73), (10, 74), (10, 76), (10, 77), (10, 78), (10, 79), (10, 80), (10, 81), (10, 82), (10, 85), (10, 88), (10, 89), (10, 91), (10, 93), (10, 94), (10, 97), (50, 0), (51, 0), (52, 0), (55, 0), (57, 0)] L h L1 hl1) (f_5 : hl1.2.2 y 2 = some q_2) (f_10 : hl1.2.2 y 3 = some q_7) (f_15 : hl1.2.2 y 4 = some q_12) (f_20 : hl1.2.2 y 5 = some q_17) (f_25 : hl1.2.2 y 6 = some q_22) (f_30 : hl1.2.2 y 12 = some q_27) (f_35 : hl1.2.2 y 15 = some q_32) (f_225 : hl1.2.2 y 21 = some q_222) (f_230 : hl1.2.2 y 22 = some q_227) (f_235 : hl1.2.2 y 23 = some q_232) (f_240 : hl1.2.2 y 24 = some q_237) (f_245 : hl1.2.2 y 25 = some q_242) (f_250 : hl1.2.2 y 26 = some q_247)  (gy : hx_g L1 hl1 y 10) (gq_2 : hx_g L1 hl1 q_2 49) (gq_7 : hx_g L1 hl1 q_7 50) (gq_12 : hx_g L1 hl1 q_12 51) (gq_17 : hx_g L1 hl1 q_17 52) (gq_22 : hx_g L1 hl1 q_22 53) (gq_27 : hx_g L1 hl1 q_27 54) (gq_32 : hx_g L1 hl1 q_32 55) (gq_222 : hx_g L1 hl1 q_222 58) (gq_227 : hx_g L1 hl1 q_227 59) (gq_232 : hx_g L1 hl1 q_232 60) (gq_237 : hx_g L1 hl1 q_237 61) (gq_242 : hx_g L1 hl1 q_242 62) (gq_247 : hx_g L1 hl1 q_247 63) (hl : lv_has ls 2 [(0, .ref y)]) : W p l e ({ frames := 2, cells := 67, slots := 15340, locals := 42 }) s m ([.ref y] : List Value).toArray below meth c H locs 58 11047 (MQ below (va_Qv (fun (u : List Nat × hx_h) => hx_S P_tb [(10, 2), (10, 3), (10, 4), (10, 5), (10, 6), (10, 12), (10, 14), (10, 15), (10, 16), (10, 17), (10, 18), (10, 19), (10, 21), (10, 22), (10, 23), (10, 24), (10, 25), (10, 26), (10, 27), (10, 28), (10, 30), (10, 31), (10, 32), (10, 33), (10, 34), (10, 35), (10, 37), (10, 38), (10, 39), (10, 40), (10, 41), (10, 42), (10, 43), (10, 44), (10, 45), (10, 46), (10, 47), (10, 48), (10, 49), (10, 50), (10, 51), (10, 52), (10, 53), (10, 54), (10, 55), (10, 56), (10, 58), (10, 60), (10, 61), (10, 62), (10, 63), (10, 64), (10, 65), (10, 66), (10, 73), (10, 74), (10, 76), (10, 77), (10, 78), (10, 79), (10, 80), (10, 81), (10, 82), (10, 85), (10, 88), (10, 89), (10, 91), (10, 93), (10, 94), (10, 97), (50, 0), (51, 0), (52, 0), (55, 0), (57, 0)] L h u.1 u.2 ∧ (∃ q, u.2.2.2 y 2 = some q ∧ hx_g u.1 u.2 q 49) ∧ (∃ q, u.2.2.2 y 3 = some q ∧ hx_g u.1 u.2 q 50 ∧ (∀ j, j < 13 → u.2.2.1 q j = P_w1 j)) ∧ (∃ q, u.2.2.2 y 4 = some q ∧ hx_g u.1 u.2 q 51) ∧ (∃ q, u.2.2.2 y 5 = some q ∧ hx_g u.1 u.2 q 52) ∧ (∃ q, u.2.2.2 y 6 = some q ∧ hx_g u.1 u.2 q 53) ∧ (∃ q, u.2.2.2 y 12 = some q ∧ hx_g u.1 u.2 q 54) ∧ (∃ q, u.2.2.2 y 15 = some q ∧ hx_g u.1 u.2 q 55) ∧ (∃ q, u.2.2.2 y 21 = some q ∧ hx_g u.1 u.2 q 58) ∧ (∃ q, u.2.2.2 y 22 = some q ∧ hx_g u.1 u.2 q 59) ∧ (∃ q, u.2.2.2 y 23 = some q ∧ hx_g u.1 u.2 q 60) ∧ (∃ q, u.2.2.2 y 24 = some q ∧ hx_g u.1 u.2 q 61) ∧ (∃ q, u.2.2.2 y 25 = some q ∧ hx_g u.1 u.2 q 62) ∧ (∃ q, u.2.2.2 y 26 = some q ∧ hx_g u.1 u.2 q 63) ∧ (∃ q, u.2.2.2 y 82 = some q ∧ hx_g u.1 u.2 q 108) ∧ (∃ q, u.2.2.2 y 94 = some q ∧ hx_g u.1 u.2 q 114)) (hx_E P_tb (P_ty dA) (dC, dI) vwCl (hx_A L sz)) (hx_A L sz)) ([.ref y] : List Value).toArray s 67 15340 (hx_A L sz)) (F0 m 1515 ls []) := by
  refine lv_aload_n hx hb dX10_init_1515 rfl (lv_at hl 0 rfl) ?_
  refine lv_iconst (v := 4) hx hb dX10_init_1516 (by decide) ?_
  refine hk_newa hx hb hts hW 107 td_107 (atype := .int) rfl kw_186 (tys := P_ty dA) (t0 := 0) rfl (fun _ => Iff.rfl) rfl (i := (4 : Int32)) (by decide) (Nat.le_of_ble_eq_true rfl) (Nat.le_of_ble_eq_true rfl) (Nat.le_of_ble_eq_true rfl) dX10_init_1517 (fun q_467 H h_466 eh_466 hqq_467 hW hs gq_467 => ?_)
  have f_5 := (hs.o gy trivial rfl).2.trans f_5
  have f_10 := (hs.o gy trivial rfl).2.trans f_10
  have f_15 := (hs.o gy trivial rfl).2.trans f_15
  have f_20 := (hs.o gy trivial rfl).2.trans f_20
  have f_25 := (hs.o gy trivial rfl).2.trans f_25
  have f_30 := (hs.o gy trivial rfl).2.trans f_30
  have f_35 := (hs.o gy trivial rfl).2.trans f_35
  have f_225 := (hs.o gy trivial rfl).2.trans f_225
  have f_230 := (hs.o gy trivial rfl).2.trans f_230
  have f_235 := (hs.o gy trivial rfl).2.trans f_235
  have f_240 := (hs.o gy trivial rfl).2.trans f_240
  have f_245 := (hs.o gy trivial rfl).2.trans f_245
  have f_250 := (hs.o gy trivial rfl).2.trans f_250
  have hM := hM.tr (hs.mono (by decide))
  have gy := gy.S hs
  have gq_2 := gq_2.S hs
  have gq_7 := gq_7.S hs
  have gq_12 := gq_12.S hs
  have gq_17 := gq_17.S hs
  have gq_22 := gq_22.S hs
  have gq_27 := gq_27.S hs
  have gq_32 := gq_32.S hs
  have gq_222 := gq_222.S hs
  have gq_227 := gq_227.S hs
  have gq_232 := gq_232.S hs
  have gq_237 := gq_237.S hs
  have gq_242 := gq_242.S hs
  have gq_247 := gq_247.S hs
  have f_468 : (∀ j, h_466.2.1 q_467 j = 0) ∧ ∀ j, h_466.2.2 q_467 j = none := by rw [eh_466]; exact ⟨fun _ => hx_nw_i, fun _ => hx_nw_r⟩
  refine hk_putrF hx hb hts hC_10 hown hW gy td_10 81 (by decide) rfl kw_1224 ⟨rfl, rfl, rfl⟩ rfl hin rfl (x := (some q_467)) rfl rfl rfl dX10_init_1519 (fun H locs h_469 eh_469 hW hs => ?_)
  have f_5 := (hs.o gy trivial rfl).2.trans f_5
  have f_10 := (hs.o gy trivial rfl).2.trans f_10
  have f_15 := (hs.o gy trivial rfl).2.trans f_15
  have f_20 := (hs.o gy trivial rfl).2.trans f_20
  have f_25 := (hs.o gy trivial rfl).2.trans f_25
  have f_30 := (hs.o gy trivial rfl).2.trans f_30
  have f_35 := (hs.o gy trivial rfl).2.trans f_35
  have f_225 := (hs.o gy trivial rfl).2.trans f_225
  have f_230 := (hs.o gy trivial rfl).2.trans f_230
  have f_235 := (hs.o gy trivial rfl).2.trans f_235
  have f_240 := (hs.o gy trivial rfl).2.trans f_240
  have f_245 := (hs.o gy trivial rfl).2.trans f_245
  have f_250 := (hs.o gy trivial rfl).2.trans f_250
  have f_468 : _ ∧ _ := ⟨fun j => (hs.a gq_467 rfl j).1.trans (f_468.1 j), fun j => (hs.a gq_467 rfl j).2.trans (f_468.2 j)⟩
  have hM := hM.tr (hs.mono (by decide))
  have gy := gy.S hs
  have gq_2 := gq_2.S hs
  have gq_7 := gq_7.S hs
  have gq_12 := gq_12.S hs
  have gq_17 := gq_17.S hs
  have gq_22 := gq_22.S hs
  have gq_27 := gq_27.S hs
  have gq_32 := gq_32.S hs
  have gq_222 := gq_222.S hs
  have gq_227 := gq_227.S hs
  have gq_232 := gq_232.S hs
  have gq_237 := gq_237.S hs
  have gq_242 := gq_242.S hs
  have gq_247 := gq_247.S hs
  have gq_467 := gq_467.S hs
  have f_470 : h_469.2.2 y 81 = (some q_467) := by rw [eh_469]; exact hx_pr_at _ _ _ _
  refine lv_aload_n hx hb dX10_init_1522 rfl (lv_at hl 0 rfl) ?_
  refine lv_sipush (v := 1600) hx hb dX10_init_1523 (by decide) ?_
  refine hk_newa hx hb hts hW 108 td_108 (atype := .int) rfl kw_186 (tys := P_ty dA) (t0 := 0) rfl (fun _ => Iff.rfl) rfl (i := (1600 : Int32)) (by decide) (Nat.le_of_ble_eq_true rfl) (Nat.le_of_ble_eq_true rfl) (Nat.le_of_ble_eq_true rfl) dX10_init_1526 (fun q_472 H h_471 eh_471 hqq_472 hW hs gq_472 => ?_)
  have f_5 := (hs.o gy trivial rfl).2.trans f_5
  have f_10 := (hs.o gy trivial rfl).2.trans f_10
  have f_15 := (hs.o gy trivial rfl).2.trans f_15
  have f_20 := (hs.o gy trivial rfl).2.trans f_20
  have f_25 := (hs.o gy trivial rfl).2.trans f_25
  have f_30 := (hs.o gy trivial rfl).2.trans f_30
  have f_35 := (hs.o gy trivial rfl).2.trans f_35
  have f_225 := (hs.o gy trivial rfl).2.trans f_225
  have f_230 := (hs.o gy trivial rfl).2.trans f_230
  have f_235 := (hs.o gy trivial rfl).2.trans f_235
  have f_240 := (hs.o gy trivial rfl).2.trans f_240
  have f_245 := (hs.o gy trivial rfl).2.trans f_245
  have f_250 := (hs.o gy trivial rfl).2.trans f_250
  have hM := hM.tr (hs.mono (by decide))
  have gy := gy.S hs
  have gq_2 := gq_2.S hs
  have gq_7 := gq_7.S hs
  have gq_12 := gq_12.S hs
  have gq_17 := gq_17.S hs
  have gq_22 := gq_22.S hs
  have gq_27 := gq_27.S hs
  have gq_32 := gq_32.S hs
  have gq_222 := gq_222.S hs
  have gq_227 := gq_227.S hs
  have gq_232 := gq_232.S hs
  have gq_237 := gq_237.S hs
  have gq_242 := gq_242.S hs
  have gq_247 := gq_247.S hs
  have f_473 : (∀ j, h_471.2.1 q_472 j = 0) ∧ ∀ j, h_471.2.2 q_472 j = none := by rw [eh_471]; exact ⟨fun _ => hx_nw_i, fun _ => hx_nw_r⟩
  refine hk_putrF hx hb hts hC_10 hown hW gy td_10 82 (by decide) rfl kw_1225 ⟨rfl, rfl, rfl⟩ rfl hin rfl (x := (some q_472)) rfl rfl rfl dX10_init_1528 (fun H locs h_474 eh_474 hW hs => ?_)
  have f_5 := (hs.o gy trivial rfl).2.trans f_5
  have f_10 := (hs.o gy trivial rfl).2.trans f_10
  have f_15 := (hs.o gy trivial rfl).2.trans f_15
  have f_20 := (hs.o gy trivial rfl).2.trans f_20
  have f_25 := (hs.o gy trivial rfl).2.trans f_25
  have f_30 := (hs.o gy trivial rfl).2.trans f_30
  have f_35 := (hs.o gy trivial rfl).2.trans f_35
  have f_225 := (hs.o gy trivial rfl).2.trans f_225
  have f_230 := (hs.o gy trivial rfl).2.trans f_230
  have f_235 := (hs.o gy trivial rfl).2.trans f_235
  have f_240 := (hs.o gy trivial rfl).2.trans f_240
  have f_245 := (hs.o gy trivial rfl).2.trans f_245
  have f_250 := (hs.o gy trivial rfl).2.trans f_250
  have f_473 : _ ∧ _ := ⟨fun j => (hs.a gq_472 rfl j).1.trans (f_473.1 j), fun j => (hs.a gq_472 rfl j).2.trans (f_473.2 j)⟩
  have hM := hM.tr (hs.mono (by decide))
  have gy := gy.S hs
  have gq_2 := gq_2.S hs
  have gq_7 := gq_7.S hs
  have gq_12 := gq_12.S hs
  have gq_17 := gq_17.S hs
  have gq_22 := gq_22.S hs
  have gq_27 := gq_27.S hs
  have gq_32 := gq_32.S hs
  have gq_222 := gq_222.S hs
  have gq_227 := gq_227.S hs
  have gq_232 := gq_232.S hs
  have gq_237 := gq_237.S hs
  have gq_242 := gq_242.S hs
  have gq_247 := gq_247.S hs
  have gq_472 := gq_472.S hs
  have f_475 : h_474.2.2 y 82 = (some q_472) := by rw [eh_474]; exact hx_pr_at _ _ _ _
  refine lv_aload_n hx hb dX10_init_1531 rfl (lv_at hl 0 rfl) ?_
  refine lv_sipush (v := 300) hx hb dX10_init_1532 (by decide) ?_
  refine hk_newa hx hb hts hW 109 td_109 (atype := .int) rfl kw_186 (tys := P_ty dA) (t0 := 0) rfl (fun _ => Iff.rfl) rfl (i := (300 : Int32)) (by decide) (Nat.le_of_ble_eq_true rfl) (Nat.le_of_ble_eq_true rfl) (Nat.le_of_ble_eq_true rfl) dX10_init_1535 (fun q_477 H h_476 eh_476 hqq_477 hW hs gq_477 => ?_)
  have f_5 := (hs.o gy trivial rfl).2.trans f_5
  have f_10 := (hs.o gy trivial rfl).2.trans f_10
  have f_15 := (hs.o gy trivial rfl).2.trans f_15
  have f_20 := (hs.o gy trivial rfl).2.trans f_20
  have f_25 := (hs.o gy trivial rfl).2.trans f_25
  have f_30 := (hs.o gy trivial rfl).2.trans f_30
  have f_35 := (hs.o gy trivial rfl).2.trans f_35
  have f_225 := (hs.o gy trivial rfl).2.trans f_225
  have f_230 := (hs.o gy trivial rfl).2.trans f_230
  have f_235 := (hs.o gy trivial rfl).2.trans f_235
  have f_240 := (hs.o gy trivial rfl).2.trans f_240
  have f_245 := (hs.o gy trivial rfl).2.trans f_245
  have f_250 := (hs.o gy trivial rfl).2.trans f_250
  have f_475 := (hs.o gy trivial rfl).2.trans f_475
  have hM := hM.tr (hs.mono (by decide))
  have gy := gy.S hs
  have gq_2 := gq_2.S hs
  have gq_7 := gq_7.S hs
  have gq_12 := gq_12.S hs
  have gq_17 := gq_17.S hs
  have gq_22 := gq_22.S hs
  have gq_27 := gq_27.S hs
  have gq_32 := gq_32.S hs
  have gq_222 := gq_222.S hs
  have gq_227 := gq_227.S hs
  have gq_232 := gq_232.S hs
  have gq_237 := gq_237.S hs
  have gq_242 := gq_242.S hs
  have gq_247 := gq_247.S hs
  have gq_472 := gq_472.S hs
  have f_478 : (∀ j, h_476.2.1 q_477 j = 0) ∧ ∀ j, h_476.2.2 q_477 j = none := by rw [eh_476]; exact ⟨fun _ => hx_nw_i, fun _ => hx_nw_r⟩
  refine W.widen (k := 61) (n := 12951) (Nat.le_of_ble_eq_true rfl) (Nat.le_of_ble_eq_true rfl) ?_
  exact sg_X10_init_24 l dC dI dA L h sz y q_2 q_7 q_12 q_17 q_22 q_27 q_32 q_222 q_227 q_232 q_237 q_242 q_247 q_472 q_477 hx hb hml hr hlk hts hown hin hsz (((L1 ++ [q_467]) ++ [q_472]) ++ [q_477]) h_476 _ _ ls hW hM f_5 f_10 f_15 f_20 f_25 f_30 f_35 f_225 f_230 f_235 f_240 f_245 f_250 f_475  gy gq_2 gq_7 gq_12 gq_17 gq_22 gq_27 gq_32 gq_222 gq_227 gq_232 gq_237 gq_242 gq_247 gq_472 gq_477 hl

set_option maxHeartbeats 4000000 in
set_option maxRecDepth 100000 in
theorem sg_X10_init_22 (l : Launch) (dC : Nat → ClassId) (dI : Nat → Nat → Nat) (dA : Nat → ClassId) (L : List Nat) (h : hx_h) (sz : Nat) (y : Nat) (q_2 q_7 q_12 q_17 q_22 q_27 q_32 q_222 q_227 q_232 q_237 q_242 q_247 : Nat) {p : Program} {e : Env} {s : State} {m : MethodId} {below : List Frame} {meth : Method} {c : Code} (hx : p.tables.exec = Jvm.exec) (hb : c.code = cX10_init) (hml : c.maxLocals = 2) (hr : meth.sig.returnType = none) (hlk : meth.locks = false) (hts : ∀ w ∈ hx_all, w.before ([.ref y] : List Value).toArray s = true) (hown : s.vm.findClass "SmallCourtModel" = some m.cls) (hin : meth.name = "<init>") (hsz : s.heap.size = sz) (L1 : List Nat) (hl1 : hx_h) (H : Heap) (locs : List Loc) (ls : Array Slot) (hW : hx_W P_tb (P_ty dA) (dC, dI) vwCl (hx_A L sz) s.heap L1 hl1 s H locs) (hM : hx_S P_tb [(10, 2), (10, 3), (10, 4), (10, 5), (10, 6), (10, 12), (10, 14), (10, 15), (10, 16), (10, 17), (10, 18), (10, 19), (10, 21), (10, 22), (10, 23), (10, 24), (10, 25), (10, 26), (10, 27), (10, 28), (10, 30), (10, 31), (10, 32), (10, 33), (10, 34), (10, 35), (10, 37), (10, 38), (10, 39), (10, 40), (10, 41), (10, 42), (10, 43), (10, 44), (10, 45), (10, 46), (10, 47), (10, 48), (10, 49), (10, 50), (10, 51), (10, 52), (10, 53), (10, 54), (10, 55), (10, 56), (10, 58), (10, 60), (10, 61), (10, 62), (10, 63), (10, 64), (10, 65), (10, 66), (10, 73), (10, 74), (10, 76), (10, 77), (10, 78), (10, 79), (10, 80), (10, 81), (10, 82), (10, 85), (10, 88), (10, 89), (10, 91), (10, 93), (10, 94), (10, 97), (50, 0), (51, 0), (52, 0), (55, 0), (57, 0)] L h L1 hl1) (f_5 : hl1.2.2 y 2 = some q_2) (f_10 : hl1.2.2 y 3 = some q_7) (f_15 : hl1.2.2 y 4 = some q_12) (f_20 : hl1.2.2 y 5 = some q_17) (f_25 : hl1.2.2 y 6 = some q_22) (f_30 : hl1.2.2 y 12 = some q_27) (f_35 : hl1.2.2 y 15 = some q_32) (f_225 : hl1.2.2 y 21 = some q_222) (f_230 : hl1.2.2 y 22 = some q_227) (f_235 : hl1.2.2 y 23 = some q_232) (f_240 : hl1.2.2 y 24 = some q_237) (f_245 : hl1.2.2 y 25 = some q_242) (f_250 : hl1.2.2 y 26 = some q_247)  (gy : hx_g L1 hl1 y 10) (gq_2 : hx_g L1 hl1 q_2 49) (gq_7 : hx_g L1 hl1 q_7 50) (gq_12 : hx_g L1 hl1 q_12 51) (gq_17 : hx_g L1 hl1 q_17 52) (gq_22 : hx_g L1 hl1 q_22 53) (gq_27 : hx_g L1 hl1 q_27 54) (gq_32 : hx_g L1 hl1 q_32 55) (gq_222 : hx_g L1 hl1 q_222 58) (gq_227 : hx_g L1 hl1 q_227 59) (gq_232 : hx_g L1 hl1 q_232 60) (gq_237 : hx_g L1 hl1 q_237 61) (gq_242 : hx_g L1 hl1 q_242 62) (gq_247 : hx_g L1 hl1 q_247 63) (hl : lv_has ls 2 [(0, .ref y)]) : W p l e ({ frames := 2, cells := 67, slots := 15340, locals := 42 }) s m ([.ref y] : List Value).toArray below meth c H locs 55 11035 (MQ below (va_Qv (fun (u : List Nat × hx_h) => hx_S P_tb [(10, 2), (10, 3), (10, 4), (10, 5), (10, 6), (10, 12), (10, 14), (10, 15), (10, 16), (10, 17), (10, 18), (10, 19), (10, 21), (10, 22), (10, 23), (10, 24), (10, 25), (10, 26), (10, 27), (10, 28), (10, 30), (10, 31), (10, 32), (10, 33), (10, 34), (10, 35), (10, 37), (10, 38), (10, 39), (10, 40), (10, 41), (10, 42), (10, 43), (10, 44), (10, 45), (10, 46), (10, 47), (10, 48), (10, 49), (10, 50), (10, 51), (10, 52), (10, 53), (10, 54), (10, 55), (10, 56), (10, 58), (10, 60), (10, 61), (10, 62), (10, 63), (10, 64), (10, 65), (10, 66), (10, 73), (10, 74), (10, 76), (10, 77), (10, 78), (10, 79), (10, 80), (10, 81), (10, 82), (10, 85), (10, 88), (10, 89), (10, 91), (10, 93), (10, 94), (10, 97), (50, 0), (51, 0), (52, 0), (55, 0), (57, 0)] L h u.1 u.2 ∧ (∃ q, u.2.2.2 y 2 = some q ∧ hx_g u.1 u.2 q 49) ∧ (∃ q, u.2.2.2 y 3 = some q ∧ hx_g u.1 u.2 q 50 ∧ (∀ j, j < 13 → u.2.2.1 q j = P_w1 j)) ∧ (∃ q, u.2.2.2 y 4 = some q ∧ hx_g u.1 u.2 q 51) ∧ (∃ q, u.2.2.2 y 5 = some q ∧ hx_g u.1 u.2 q 52) ∧ (∃ q, u.2.2.2 y 6 = some q ∧ hx_g u.1 u.2 q 53) ∧ (∃ q, u.2.2.2 y 12 = some q ∧ hx_g u.1 u.2 q 54) ∧ (∃ q, u.2.2.2 y 15 = some q ∧ hx_g u.1 u.2 q 55) ∧ (∃ q, u.2.2.2 y 21 = some q ∧ hx_g u.1 u.2 q 58) ∧ (∃ q, u.2.2.2 y 22 = some q ∧ hx_g u.1 u.2 q 59) ∧ (∃ q, u.2.2.2 y 23 = some q ∧ hx_g u.1 u.2 q 60) ∧ (∃ q, u.2.2.2 y 24 = some q ∧ hx_g u.1 u.2 q 61) ∧ (∃ q, u.2.2.2 y 25 = some q ∧ hx_g u.1 u.2 q 62) ∧ (∃ q, u.2.2.2 y 26 = some q ∧ hx_g u.1 u.2 q 63) ∧ (∃ q, u.2.2.2 y 82 = some q ∧ hx_g u.1 u.2 q 108) ∧ (∃ q, u.2.2.2 y 94 = some q ∧ hx_g u.1 u.2 q 114)) (hx_E P_tb (P_ty dA) (dC, dI) vwCl (hx_A L sz)) (hx_A L sz)) ([.ref y] : List Value).toArray s 67 15340 (hx_A L sz)) (F0 m 1494 ls []) := by
  refine lv_aload_n hx hb dX10_init_1494 rfl (lv_at hl 0 rfl) ?_
  refine lv_iconst (v := 4) hx hb dX10_init_1495 (by decide) ?_
  refine hk_newa hx hb hts hW 104 td_104 (atype := .int) rfl kw_186 (tys := P_ty dA) (t0 := 0) rfl (fun _ => Iff.rfl) rfl (i := (4 : Int32)) (by decide) (Nat.le_of_ble_eq_true rfl) (Nat.le_of_ble_eq_true rfl) (Nat.le_of_ble_eq_true rfl) dX10_init_1496 (fun q_452 H h_451 eh_451 hqq_452 hW hs gq_452 => ?_)
  have f_5 := (hs.o gy trivial rfl).2.trans f_5
  have f_10 := (hs.o gy trivial rfl).2.trans f_10
  have f_15 := (hs.o gy trivial rfl).2.trans f_15
  have f_20 := (hs.o gy trivial rfl).2.trans f_20
  have f_25 := (hs.o gy trivial rfl).2.trans f_25
  have f_30 := (hs.o gy trivial rfl).2.trans f_30
  have f_35 := (hs.o gy trivial rfl).2.trans f_35
  have f_225 := (hs.o gy trivial rfl).2.trans f_225
  have f_230 := (hs.o gy trivial rfl).2.trans f_230
  have f_235 := (hs.o gy trivial rfl).2.trans f_235
  have f_240 := (hs.o gy trivial rfl).2.trans f_240
  have f_245 := (hs.o gy trivial rfl).2.trans f_245
  have f_250 := (hs.o gy trivial rfl).2.trans f_250
  have hM := hM.tr (hs.mono (by decide))
  have gy := gy.S hs
  have gq_2 := gq_2.S hs
  have gq_7 := gq_7.S hs
  have gq_12 := gq_12.S hs
  have gq_17 := gq_17.S hs
  have gq_22 := gq_22.S hs
  have gq_27 := gq_27.S hs
  have gq_32 := gq_32.S hs
  have gq_222 := gq_222.S hs
  have gq_227 := gq_227.S hs
  have gq_232 := gq_232.S hs
  have gq_237 := gq_237.S hs
  have gq_242 := gq_242.S hs
  have gq_247 := gq_247.S hs
  have f_453 : (∀ j, h_451.2.1 q_452 j = 0) ∧ ∀ j, h_451.2.2 q_452 j = none := by rw [eh_451]; exact ⟨fun _ => hx_nw_i, fun _ => hx_nw_r⟩
  refine hk_putrF hx hb hts hC_10 hown hW gy td_10 78 (by decide) rfl kw_1221 ⟨rfl, rfl, rfl⟩ rfl hin rfl (x := (some q_452)) rfl rfl rfl dX10_init_1498 (fun H locs h_454 eh_454 hW hs => ?_)
  have f_5 := (hs.o gy trivial rfl).2.trans f_5
  have f_10 := (hs.o gy trivial rfl).2.trans f_10
  have f_15 := (hs.o gy trivial rfl).2.trans f_15
  have f_20 := (hs.o gy trivial rfl).2.trans f_20
  have f_25 := (hs.o gy trivial rfl).2.trans f_25
  have f_30 := (hs.o gy trivial rfl).2.trans f_30
  have f_35 := (hs.o gy trivial rfl).2.trans f_35
  have f_225 := (hs.o gy trivial rfl).2.trans f_225
  have f_230 := (hs.o gy trivial rfl).2.trans f_230
  have f_235 := (hs.o gy trivial rfl).2.trans f_235
  have f_240 := (hs.o gy trivial rfl).2.trans f_240
  have f_245 := (hs.o gy trivial rfl).2.trans f_245
  have f_250 := (hs.o gy trivial rfl).2.trans f_250
  have f_453 : _ ∧ _ := ⟨fun j => (hs.a gq_452 rfl j).1.trans (f_453.1 j), fun j => (hs.a gq_452 rfl j).2.trans (f_453.2 j)⟩
  have hM := hM.tr (hs.mono (by decide))
  have gy := gy.S hs
  have gq_2 := gq_2.S hs
  have gq_7 := gq_7.S hs
  have gq_12 := gq_12.S hs
  have gq_17 := gq_17.S hs
  have gq_22 := gq_22.S hs
  have gq_27 := gq_27.S hs
  have gq_32 := gq_32.S hs
  have gq_222 := gq_222.S hs
  have gq_227 := gq_227.S hs
  have gq_232 := gq_232.S hs
  have gq_237 := gq_237.S hs
  have gq_242 := gq_242.S hs
  have gq_247 := gq_247.S hs
  have gq_452 := gq_452.S hs
  have f_455 : h_454.2.2 y 78 = (some q_452) := by rw [eh_454]; exact hx_pr_at _ _ _ _
  refine lv_aload_n hx hb dX10_init_1501 rfl (lv_at hl 0 rfl) ?_
  refine lv_iconst (v := 4) hx hb dX10_init_1502 (by decide) ?_
  refine hk_newa hx hb hts hW 105 td_105 (atype := .int) rfl kw_186 (tys := P_ty dA) (t0 := 0) rfl (fun _ => Iff.rfl) rfl (i := (4 : Int32)) (by decide) (Nat.le_of_ble_eq_true rfl) (Nat.le_of_ble_eq_true rfl) (Nat.le_of_ble_eq_true rfl) dX10_init_1503 (fun q_457 H h_456 eh_456 hqq_457 hW hs gq_457 => ?_)
  have f_5 := (hs.o gy trivial rfl).2.trans f_5
  have f_10 := (hs.o gy trivial rfl).2.trans f_10
  have f_15 := (hs.o gy trivial rfl).2.trans f_15
  have f_20 := (hs.o gy trivial rfl).2.trans f_20
  have f_25 := (hs.o gy trivial rfl).2.trans f_25
  have f_30 := (hs.o gy trivial rfl).2.trans f_30
  have f_35 := (hs.o gy trivial rfl).2.trans f_35
  have f_225 := (hs.o gy trivial rfl).2.trans f_225
  have f_230 := (hs.o gy trivial rfl).2.trans f_230
  have f_235 := (hs.o gy trivial rfl).2.trans f_235
  have f_240 := (hs.o gy trivial rfl).2.trans f_240
  have f_245 := (hs.o gy trivial rfl).2.trans f_245
  have f_250 := (hs.o gy trivial rfl).2.trans f_250
  have hM := hM.tr (hs.mono (by decide))
  have gy := gy.S hs
  have gq_2 := gq_2.S hs
  have gq_7 := gq_7.S hs
  have gq_12 := gq_12.S hs
  have gq_17 := gq_17.S hs
  have gq_22 := gq_22.S hs
  have gq_27 := gq_27.S hs
  have gq_32 := gq_32.S hs
  have gq_222 := gq_222.S hs
  have gq_227 := gq_227.S hs
  have gq_232 := gq_232.S hs
  have gq_237 := gq_237.S hs
  have gq_242 := gq_242.S hs
  have gq_247 := gq_247.S hs
  have f_458 : (∀ j, h_456.2.1 q_457 j = 0) ∧ ∀ j, h_456.2.2 q_457 j = none := by rw [eh_456]; exact ⟨fun _ => hx_nw_i, fun _ => hx_nw_r⟩
  refine hk_putrF hx hb hts hC_10 hown hW gy td_10 79 (by decide) rfl kw_1222 ⟨rfl, rfl, rfl⟩ rfl hin rfl (x := (some q_457)) rfl rfl rfl dX10_init_1505 (fun H locs h_459 eh_459 hW hs => ?_)
  have f_5 := (hs.o gy trivial rfl).2.trans f_5
  have f_10 := (hs.o gy trivial rfl).2.trans f_10
  have f_15 := (hs.o gy trivial rfl).2.trans f_15
  have f_20 := (hs.o gy trivial rfl).2.trans f_20
  have f_25 := (hs.o gy trivial rfl).2.trans f_25
  have f_30 := (hs.o gy trivial rfl).2.trans f_30
  have f_35 := (hs.o gy trivial rfl).2.trans f_35
  have f_225 := (hs.o gy trivial rfl).2.trans f_225
  have f_230 := (hs.o gy trivial rfl).2.trans f_230
  have f_235 := (hs.o gy trivial rfl).2.trans f_235
  have f_240 := (hs.o gy trivial rfl).2.trans f_240
  have f_245 := (hs.o gy trivial rfl).2.trans f_245
  have f_250 := (hs.o gy trivial rfl).2.trans f_250
  have f_458 : _ ∧ _ := ⟨fun j => (hs.a gq_457 rfl j).1.trans (f_458.1 j), fun j => (hs.a gq_457 rfl j).2.trans (f_458.2 j)⟩
  have hM := hM.tr (hs.mono (by decide))
  have gy := gy.S hs
  have gq_2 := gq_2.S hs
  have gq_7 := gq_7.S hs
  have gq_12 := gq_12.S hs
  have gq_17 := gq_17.S hs
  have gq_22 := gq_22.S hs
  have gq_27 := gq_27.S hs
  have gq_32 := gq_32.S hs
  have gq_222 := gq_222.S hs
  have gq_227 := gq_227.S hs
  have gq_232 := gq_232.S hs
  have gq_237 := gq_237.S hs
  have gq_242 := gq_242.S hs
  have gq_247 := gq_247.S hs
  have gq_457 := gq_457.S hs
  have f_460 : h_459.2.2 y 79 = (some q_457) := by rw [eh_459]; exact hx_pr_at _ _ _ _
  refine lv_aload_n hx hb dX10_init_1508 rfl (lv_at hl 0 rfl) ?_
  refine lv_iconst (v := 4) hx hb dX10_init_1509 (by decide) ?_
  refine hk_newa hx hb hts hW 106 td_106 (atype := .int) rfl kw_186 (tys := P_ty dA) (t0 := 0) rfl (fun _ => Iff.rfl) rfl (i := (4 : Int32)) (by decide) (Nat.le_of_ble_eq_true rfl) (Nat.le_of_ble_eq_true rfl) (Nat.le_of_ble_eq_true rfl) dX10_init_1510 (fun q_462 H h_461 eh_461 hqq_462 hW hs gq_462 => ?_)
  have f_5 := (hs.o gy trivial rfl).2.trans f_5
  have f_10 := (hs.o gy trivial rfl).2.trans f_10
  have f_15 := (hs.o gy trivial rfl).2.trans f_15
  have f_20 := (hs.o gy trivial rfl).2.trans f_20
  have f_25 := (hs.o gy trivial rfl).2.trans f_25
  have f_30 := (hs.o gy trivial rfl).2.trans f_30
  have f_35 := (hs.o gy trivial rfl).2.trans f_35
  have f_225 := (hs.o gy trivial rfl).2.trans f_225
  have f_230 := (hs.o gy trivial rfl).2.trans f_230
  have f_235 := (hs.o gy trivial rfl).2.trans f_235
  have f_240 := (hs.o gy trivial rfl).2.trans f_240
  have f_245 := (hs.o gy trivial rfl).2.trans f_245
  have f_250 := (hs.o gy trivial rfl).2.trans f_250
  have hM := hM.tr (hs.mono (by decide))
  have gy := gy.S hs
  have gq_2 := gq_2.S hs
  have gq_7 := gq_7.S hs
  have gq_12 := gq_12.S hs
  have gq_17 := gq_17.S hs
  have gq_22 := gq_22.S hs
  have gq_27 := gq_27.S hs
  have gq_32 := gq_32.S hs
  have gq_222 := gq_222.S hs
  have gq_227 := gq_227.S hs
  have gq_232 := gq_232.S hs
  have gq_237 := gq_237.S hs
  have gq_242 := gq_242.S hs
  have gq_247 := gq_247.S hs
  have f_463 : (∀ j, h_461.2.1 q_462 j = 0) ∧ ∀ j, h_461.2.2 q_462 j = none := by rw [eh_461]; exact ⟨fun _ => hx_nw_i, fun _ => hx_nw_r⟩
  refine hk_putrF hx hb hts hC_10 hown hW gy td_10 80 (by decide) rfl kw_1223 ⟨rfl, rfl, rfl⟩ rfl hin rfl (x := (some q_462)) rfl rfl rfl dX10_init_1512 (fun H locs h_464 eh_464 hW hs => ?_)
  have f_5 := (hs.o gy trivial rfl).2.trans f_5
  have f_10 := (hs.o gy trivial rfl).2.trans f_10
  have f_15 := (hs.o gy trivial rfl).2.trans f_15
  have f_20 := (hs.o gy trivial rfl).2.trans f_20
  have f_25 := (hs.o gy trivial rfl).2.trans f_25
  have f_30 := (hs.o gy trivial rfl).2.trans f_30
  have f_35 := (hs.o gy trivial rfl).2.trans f_35
  have f_225 := (hs.o gy trivial rfl).2.trans f_225
  have f_230 := (hs.o gy trivial rfl).2.trans f_230
  have f_235 := (hs.o gy trivial rfl).2.trans f_235
  have f_240 := (hs.o gy trivial rfl).2.trans f_240
  have f_245 := (hs.o gy trivial rfl).2.trans f_245
  have f_250 := (hs.o gy trivial rfl).2.trans f_250
  have f_463 : _ ∧ _ := ⟨fun j => (hs.a gq_462 rfl j).1.trans (f_463.1 j), fun j => (hs.a gq_462 rfl j).2.trans (f_463.2 j)⟩
  have hM := hM.tr (hs.mono (by decide))
  have gy := gy.S hs
  have gq_2 := gq_2.S hs
  have gq_7 := gq_7.S hs
  have gq_12 := gq_12.S hs
  have gq_17 := gq_17.S hs
  have gq_22 := gq_22.S hs
  have gq_27 := gq_27.S hs
  have gq_32 := gq_32.S hs
  have gq_222 := gq_222.S hs
  have gq_227 := gq_227.S hs
  have gq_232 := gq_232.S hs
  have gq_237 := gq_237.S hs
  have gq_242 := gq_242.S hs
  have gq_247 := gq_247.S hs
  have gq_462 := gq_462.S hs
  have f_465 : h_464.2.2 y 80 = (some q_462) := by rw [eh_464]; exact hx_pr_at _ _ _ _
  refine W.widen (k := 58) (n := 11047) (Nat.le_of_ble_eq_true rfl) (Nat.le_of_ble_eq_true rfl) ?_
  exact sg_X10_init_23 l dC dI dA L h sz y q_2 q_7 q_12 q_17 q_22 q_27 q_32 q_222 q_227 q_232 q_237 q_242 q_247 hx hb hml hr hlk hts hown hin hsz (((L1 ++ [q_452]) ++ [q_457]) ++ [q_462]) h_464 _ _ ls hW hM f_5 f_10 f_15 f_20 f_25 f_30 f_35 f_225 f_230 f_235 f_240 f_245 f_250  gy gq_2 gq_7 gq_12 gq_17 gq_22 gq_27 gq_32 gq_222 gq_227 gq_232 gq_237 gq_242 gq_247 hl

set_option maxHeartbeats 4000000 in
set_option maxRecDepth 100000 in
theorem sg_X10_init_21 (l : Launch) (dC : Nat → ClassId) (dI : Nat → Nat → Nat) (dA : Nat → ClassId) (L : List Nat) (h : hx_h) (sz : Nat) (y : Nat) (q_2 q_7 q_12 q_17 q_22 q_27 q_32 q_222 q_227 q_232 q_237 q_242 q_247 : Nat) {p : Program} {e : Env} {s : State} {m : MethodId} {below : List Frame} {meth : Method} {c : Code} (hx : p.tables.exec = Jvm.exec) (hb : c.code = cX10_init) (hml : c.maxLocals = 2) (hr : meth.sig.returnType = none) (hlk : meth.locks = false) (hts : ∀ w ∈ hx_all, w.before ([.ref y] : List Value).toArray s = true) (hown : s.vm.findClass "SmallCourtModel" = some m.cls) (hin : meth.name = "<init>") (hsz : s.heap.size = sz) (L1 : List Nat) (hl1 : hx_h) (H : Heap) (locs : List Loc) (ls : Array Slot) (hW : hx_W P_tb (P_ty dA) (dC, dI) vwCl (hx_A L sz) s.heap L1 hl1 s H locs) (hM : hx_S P_tb [(10, 2), (10, 3), (10, 4), (10, 5), (10, 6), (10, 12), (10, 14), (10, 15), (10, 16), (10, 17), (10, 18), (10, 19), (10, 21), (10, 22), (10, 23), (10, 24), (10, 25), (10, 26), (10, 27), (10, 28), (10, 30), (10, 31), (10, 32), (10, 33), (10, 34), (10, 35), (10, 37), (10, 38), (10, 39), (10, 40), (10, 41), (10, 42), (10, 43), (10, 44), (10, 45), (10, 46), (10, 47), (10, 48), (10, 49), (10, 50), (10, 51), (10, 52), (10, 53), (10, 54), (10, 55), (10, 56), (10, 58), (10, 60), (10, 61), (10, 62), (10, 63), (10, 64), (10, 65), (10, 66), (10, 73), (10, 74), (10, 76), (10, 77), (10, 78), (10, 79), (10, 80), (10, 81), (10, 82), (10, 85), (10, 88), (10, 89), (10, 91), (10, 93), (10, 94), (10, 97), (50, 0), (51, 0), (52, 0), (55, 0), (57, 0)] L h L1 hl1) (f_5 : hl1.2.2 y 2 = some q_2) (f_10 : hl1.2.2 y 3 = some q_7) (f_15 : hl1.2.2 y 4 = some q_12) (f_20 : hl1.2.2 y 5 = some q_17) (f_25 : hl1.2.2 y 6 = some q_22) (f_30 : hl1.2.2 y 12 = some q_27) (f_35 : hl1.2.2 y 15 = some q_32) (f_225 : hl1.2.2 y 21 = some q_222) (f_230 : hl1.2.2 y 22 = some q_227) (f_235 : hl1.2.2 y 23 = some q_232) (f_240 : hl1.2.2 y 24 = some q_237) (f_245 : hl1.2.2 y 25 = some q_242) (f_250 : hl1.2.2 y 26 = some q_247)  (gy : hx_g L1 hl1 y 10) (gq_2 : hx_g L1 hl1 q_2 49) (gq_7 : hx_g L1 hl1 q_7 50) (gq_12 : hx_g L1 hl1 q_12 51) (gq_17 : hx_g L1 hl1 q_17 52) (gq_22 : hx_g L1 hl1 q_22 53) (gq_27 : hx_g L1 hl1 q_27 54) (gq_32 : hx_g L1 hl1 q_32 55) (gq_222 : hx_g L1 hl1 q_222 58) (gq_227 : hx_g L1 hl1 q_227 59) (gq_232 : hx_g L1 hl1 q_232 60) (gq_237 : hx_g L1 hl1 q_237 61) (gq_242 : hx_g L1 hl1 q_242 62) (gq_247 : hx_g L1 hl1 q_247 63) (hl : lv_has ls 2 [(0, .ref y)]) : W p l e ({ frames := 2, cells := 67, slots := 15340, locals := 42 }) s m ([.ref y] : List Value).toArray below meth c H locs 52 11023 (MQ below (va_Qv (fun (u : List Nat × hx_h) => hx_S P_tb [(10, 2), (10, 3), (10, 4), (10, 5), (10, 6), (10, 12), (10, 14), (10, 15), (10, 16), (10, 17), (10, 18), (10, 19), (10, 21), (10, 22), (10, 23), (10, 24), (10, 25), (10, 26), (10, 27), (10, 28), (10, 30), (10, 31), (10, 32), (10, 33), (10, 34), (10, 35), (10, 37), (10, 38), (10, 39), (10, 40), (10, 41), (10, 42), (10, 43), (10, 44), (10, 45), (10, 46), (10, 47), (10, 48), (10, 49), (10, 50), (10, 51), (10, 52), (10, 53), (10, 54), (10, 55), (10, 56), (10, 58), (10, 60), (10, 61), (10, 62), (10, 63), (10, 64), (10, 65), (10, 66), (10, 73), (10, 74), (10, 76), (10, 77), (10, 78), (10, 79), (10, 80), (10, 81), (10, 82), (10, 85), (10, 88), (10, 89), (10, 91), (10, 93), (10, 94), (10, 97), (50, 0), (51, 0), (52, 0), (55, 0), (57, 0)] L h u.1 u.2 ∧ (∃ q, u.2.2.2 y 2 = some q ∧ hx_g u.1 u.2 q 49) ∧ (∃ q, u.2.2.2 y 3 = some q ∧ hx_g u.1 u.2 q 50 ∧ (∀ j, j < 13 → u.2.2.1 q j = P_w1 j)) ∧ (∃ q, u.2.2.2 y 4 = some q ∧ hx_g u.1 u.2 q 51) ∧ (∃ q, u.2.2.2 y 5 = some q ∧ hx_g u.1 u.2 q 52) ∧ (∃ q, u.2.2.2 y 6 = some q ∧ hx_g u.1 u.2 q 53) ∧ (∃ q, u.2.2.2 y 12 = some q ∧ hx_g u.1 u.2 q 54) ∧ (∃ q, u.2.2.2 y 15 = some q ∧ hx_g u.1 u.2 q 55) ∧ (∃ q, u.2.2.2 y 21 = some q ∧ hx_g u.1 u.2 q 58) ∧ (∃ q, u.2.2.2 y 22 = some q ∧ hx_g u.1 u.2 q 59) ∧ (∃ q, u.2.2.2 y 23 = some q ∧ hx_g u.1 u.2 q 60) ∧ (∃ q, u.2.2.2 y 24 = some q ∧ hx_g u.1 u.2 q 61) ∧ (∃ q, u.2.2.2 y 25 = some q ∧ hx_g u.1 u.2 q 62) ∧ (∃ q, u.2.2.2 y 26 = some q ∧ hx_g u.1 u.2 q 63) ∧ (∃ q, u.2.2.2 y 82 = some q ∧ hx_g u.1 u.2 q 108) ∧ (∃ q, u.2.2.2 y 94 = some q ∧ hx_g u.1 u.2 q 114)) (hx_E P_tb (P_ty dA) (dC, dI) vwCl (hx_A L sz)) (hx_A L sz)) ([.ref y] : List Value).toArray s 67 15340 (hx_A L sz)) (F0 m 1473 ls []) := by
  refine lv_aload_n hx hb dX10_init_1473 rfl (lv_at hl 0 rfl) ?_
  refine lv_iconst (v := 4) hx hb dX10_init_1474 (by decide) ?_
  refine hk_newa hx hb hts hW 101 td_101 (atype := .int) rfl kw_186 (tys := P_ty dA) (t0 := 0) rfl (fun _ => Iff.rfl) rfl (i := (4 : Int32)) (by decide) (Nat.le_of_ble_eq_true rfl) (Nat.le_of_ble_eq_true rfl) (Nat.le_of_ble_eq_true rfl) dX10_init_1475 (fun q_437 H h_436 eh_436 hqq_437 hW hs gq_437 => ?_)
  have f_5 := (hs.o gy trivial rfl).2.trans f_5
  have f_10 := (hs.o gy trivial rfl).2.trans f_10
  have f_15 := (hs.o gy trivial rfl).2.trans f_15
  have f_20 := (hs.o gy trivial rfl).2.trans f_20
  have f_25 := (hs.o gy trivial rfl).2.trans f_25
  have f_30 := (hs.o gy trivial rfl).2.trans f_30
  have f_35 := (hs.o gy trivial rfl).2.trans f_35
  have f_225 := (hs.o gy trivial rfl).2.trans f_225
  have f_230 := (hs.o gy trivial rfl).2.trans f_230
  have f_235 := (hs.o gy trivial rfl).2.trans f_235
  have f_240 := (hs.o gy trivial rfl).2.trans f_240
  have f_245 := (hs.o gy trivial rfl).2.trans f_245
  have f_250 := (hs.o gy trivial rfl).2.trans f_250
  have hM := hM.tr (hs.mono (by decide))
  have gy := gy.S hs
  have gq_2 := gq_2.S hs
  have gq_7 := gq_7.S hs
  have gq_12 := gq_12.S hs
  have gq_17 := gq_17.S hs
  have gq_22 := gq_22.S hs
  have gq_27 := gq_27.S hs
  have gq_32 := gq_32.S hs
  have gq_222 := gq_222.S hs
  have gq_227 := gq_227.S hs
  have gq_232 := gq_232.S hs
  have gq_237 := gq_237.S hs
  have gq_242 := gq_242.S hs
  have gq_247 := gq_247.S hs
  have f_438 : (∀ j, h_436.2.1 q_437 j = 0) ∧ ∀ j, h_436.2.2 q_437 j = none := by rw [eh_436]; exact ⟨fun _ => hx_nw_i, fun _ => hx_nw_r⟩
  refine hk_putrF hx hb hts hC_10 hown hW gy td_10 74 (by decide) rfl kw_1217 ⟨rfl, rfl, rfl⟩ rfl hin rfl (x := (some q_437)) rfl rfl rfl dX10_init_1477 (fun H locs h_439 eh_439 hW hs => ?_)
  have f_5 := (hs.o gy trivial rfl).2.trans f_5
  have f_10 := (hs.o gy trivial rfl).2.trans f_10
  have f_15 := (hs.o gy trivial rfl).2.trans f_15
  have f_20 := (hs.o gy trivial rfl).2.trans f_20
  have f_25 := (hs.o gy trivial rfl).2.trans f_25
  have f_30 := (hs.o gy trivial rfl).2.trans f_30
  have f_35 := (hs.o gy trivial rfl).2.trans f_35
  have f_225 := (hs.o gy trivial rfl).2.trans f_225
  have f_230 := (hs.o gy trivial rfl).2.trans f_230
  have f_235 := (hs.o gy trivial rfl).2.trans f_235
  have f_240 := (hs.o gy trivial rfl).2.trans f_240
  have f_245 := (hs.o gy trivial rfl).2.trans f_245
  have f_250 := (hs.o gy trivial rfl).2.trans f_250
  have f_438 : _ ∧ _ := ⟨fun j => (hs.a gq_437 rfl j).1.trans (f_438.1 j), fun j => (hs.a gq_437 rfl j).2.trans (f_438.2 j)⟩
  have hM := hM.tr (hs.mono (by decide))
  have gy := gy.S hs
  have gq_2 := gq_2.S hs
  have gq_7 := gq_7.S hs
  have gq_12 := gq_12.S hs
  have gq_17 := gq_17.S hs
  have gq_22 := gq_22.S hs
  have gq_27 := gq_27.S hs
  have gq_32 := gq_32.S hs
  have gq_222 := gq_222.S hs
  have gq_227 := gq_227.S hs
  have gq_232 := gq_232.S hs
  have gq_237 := gq_237.S hs
  have gq_242 := gq_242.S hs
  have gq_247 := gq_247.S hs
  have gq_437 := gq_437.S hs
  have f_440 : h_439.2.2 y 74 = (some q_437) := by rw [eh_439]; exact hx_pr_at _ _ _ _
  refine lv_aload_n hx hb dX10_init_1480 rfl (lv_at hl 0 rfl) ?_
  refine lv_iconst (v := 4) hx hb dX10_init_1481 (by decide) ?_
  refine hk_newa hx hb hts hW 102 td_102 (atype := .int) rfl kw_186 (tys := P_ty dA) (t0 := 0) rfl (fun _ => Iff.rfl) rfl (i := (4 : Int32)) (by decide) (Nat.le_of_ble_eq_true rfl) (Nat.le_of_ble_eq_true rfl) (Nat.le_of_ble_eq_true rfl) dX10_init_1482 (fun q_442 H h_441 eh_441 hqq_442 hW hs gq_442 => ?_)
  have f_5 := (hs.o gy trivial rfl).2.trans f_5
  have f_10 := (hs.o gy trivial rfl).2.trans f_10
  have f_15 := (hs.o gy trivial rfl).2.trans f_15
  have f_20 := (hs.o gy trivial rfl).2.trans f_20
  have f_25 := (hs.o gy trivial rfl).2.trans f_25
  have f_30 := (hs.o gy trivial rfl).2.trans f_30
  have f_35 := (hs.o gy trivial rfl).2.trans f_35
  have f_225 := (hs.o gy trivial rfl).2.trans f_225
  have f_230 := (hs.o gy trivial rfl).2.trans f_230
  have f_235 := (hs.o gy trivial rfl).2.trans f_235
  have f_240 := (hs.o gy trivial rfl).2.trans f_240
  have f_245 := (hs.o gy trivial rfl).2.trans f_245
  have f_250 := (hs.o gy trivial rfl).2.trans f_250
  have hM := hM.tr (hs.mono (by decide))
  have gy := gy.S hs
  have gq_2 := gq_2.S hs
  have gq_7 := gq_7.S hs
  have gq_12 := gq_12.S hs
  have gq_17 := gq_17.S hs
  have gq_22 := gq_22.S hs
  have gq_27 := gq_27.S hs
  have gq_32 := gq_32.S hs
  have gq_222 := gq_222.S hs
  have gq_227 := gq_227.S hs
  have gq_232 := gq_232.S hs
  have gq_237 := gq_237.S hs
  have gq_242 := gq_242.S hs
  have gq_247 := gq_247.S hs
  have f_443 : (∀ j, h_441.2.1 q_442 j = 0) ∧ ∀ j, h_441.2.2 q_442 j = none := by rw [eh_441]; exact ⟨fun _ => hx_nw_i, fun _ => hx_nw_r⟩
  refine hk_putrF hx hb hts hC_10 hown hW gy td_10 76 (by decide) rfl kw_1219 ⟨rfl, rfl, rfl⟩ rfl hin rfl (x := (some q_442)) rfl rfl rfl dX10_init_1484 (fun H locs h_444 eh_444 hW hs => ?_)
  have f_5 := (hs.o gy trivial rfl).2.trans f_5
  have f_10 := (hs.o gy trivial rfl).2.trans f_10
  have f_15 := (hs.o gy trivial rfl).2.trans f_15
  have f_20 := (hs.o gy trivial rfl).2.trans f_20
  have f_25 := (hs.o gy trivial rfl).2.trans f_25
  have f_30 := (hs.o gy trivial rfl).2.trans f_30
  have f_35 := (hs.o gy trivial rfl).2.trans f_35
  have f_225 := (hs.o gy trivial rfl).2.trans f_225
  have f_230 := (hs.o gy trivial rfl).2.trans f_230
  have f_235 := (hs.o gy trivial rfl).2.trans f_235
  have f_240 := (hs.o gy trivial rfl).2.trans f_240
  have f_245 := (hs.o gy trivial rfl).2.trans f_245
  have f_250 := (hs.o gy trivial rfl).2.trans f_250
  have f_443 : _ ∧ _ := ⟨fun j => (hs.a gq_442 rfl j).1.trans (f_443.1 j), fun j => (hs.a gq_442 rfl j).2.trans (f_443.2 j)⟩
  have hM := hM.tr (hs.mono (by decide))
  have gy := gy.S hs
  have gq_2 := gq_2.S hs
  have gq_7 := gq_7.S hs
  have gq_12 := gq_12.S hs
  have gq_17 := gq_17.S hs
  have gq_22 := gq_22.S hs
  have gq_27 := gq_27.S hs
  have gq_32 := gq_32.S hs
  have gq_222 := gq_222.S hs
  have gq_227 := gq_227.S hs
  have gq_232 := gq_232.S hs
  have gq_237 := gq_237.S hs
  have gq_242 := gq_242.S hs
  have gq_247 := gq_247.S hs
  have gq_442 := gq_442.S hs
  have f_445 : h_444.2.2 y 76 = (some q_442) := by rw [eh_444]; exact hx_pr_at _ _ _ _
  refine lv_aload_n hx hb dX10_init_1487 rfl (lv_at hl 0 rfl) ?_
  refine lv_iconst (v := 4) hx hb dX10_init_1488 (by decide) ?_
  refine hk_newa hx hb hts hW 103 td_103 (atype := .int) rfl kw_186 (tys := P_ty dA) (t0 := 0) rfl (fun _ => Iff.rfl) rfl (i := (4 : Int32)) (by decide) (Nat.le_of_ble_eq_true rfl) (Nat.le_of_ble_eq_true rfl) (Nat.le_of_ble_eq_true rfl) dX10_init_1489 (fun q_447 H h_446 eh_446 hqq_447 hW hs gq_447 => ?_)
  have f_5 := (hs.o gy trivial rfl).2.trans f_5
  have f_10 := (hs.o gy trivial rfl).2.trans f_10
  have f_15 := (hs.o gy trivial rfl).2.trans f_15
  have f_20 := (hs.o gy trivial rfl).2.trans f_20
  have f_25 := (hs.o gy trivial rfl).2.trans f_25
  have f_30 := (hs.o gy trivial rfl).2.trans f_30
  have f_35 := (hs.o gy trivial rfl).2.trans f_35
  have f_225 := (hs.o gy trivial rfl).2.trans f_225
  have f_230 := (hs.o gy trivial rfl).2.trans f_230
  have f_235 := (hs.o gy trivial rfl).2.trans f_235
  have f_240 := (hs.o gy trivial rfl).2.trans f_240
  have f_245 := (hs.o gy trivial rfl).2.trans f_245
  have f_250 := (hs.o gy trivial rfl).2.trans f_250
  have hM := hM.tr (hs.mono (by decide))
  have gy := gy.S hs
  have gq_2 := gq_2.S hs
  have gq_7 := gq_7.S hs
  have gq_12 := gq_12.S hs
  have gq_17 := gq_17.S hs
  have gq_22 := gq_22.S hs
  have gq_27 := gq_27.S hs
  have gq_32 := gq_32.S hs
  have gq_222 := gq_222.S hs
  have gq_227 := gq_227.S hs
  have gq_232 := gq_232.S hs
  have gq_237 := gq_237.S hs
  have gq_242 := gq_242.S hs
  have gq_247 := gq_247.S hs
  have f_448 : (∀ j, h_446.2.1 q_447 j = 0) ∧ ∀ j, h_446.2.2 q_447 j = none := by rw [eh_446]; exact ⟨fun _ => hx_nw_i, fun _ => hx_nw_r⟩
  refine hk_putrF hx hb hts hC_10 hown hW gy td_10 77 (by decide) rfl kw_1220 ⟨rfl, rfl, rfl⟩ rfl hin rfl (x := (some q_447)) rfl rfl rfl dX10_init_1491 (fun H locs h_449 eh_449 hW hs => ?_)
  have f_5 := (hs.o gy trivial rfl).2.trans f_5
  have f_10 := (hs.o gy trivial rfl).2.trans f_10
  have f_15 := (hs.o gy trivial rfl).2.trans f_15
  have f_20 := (hs.o gy trivial rfl).2.trans f_20
  have f_25 := (hs.o gy trivial rfl).2.trans f_25
  have f_30 := (hs.o gy trivial rfl).2.trans f_30
  have f_35 := (hs.o gy trivial rfl).2.trans f_35
  have f_225 := (hs.o gy trivial rfl).2.trans f_225
  have f_230 := (hs.o gy trivial rfl).2.trans f_230
  have f_235 := (hs.o gy trivial rfl).2.trans f_235
  have f_240 := (hs.o gy trivial rfl).2.trans f_240
  have f_245 := (hs.o gy trivial rfl).2.trans f_245
  have f_250 := (hs.o gy trivial rfl).2.trans f_250
  have f_448 : _ ∧ _ := ⟨fun j => (hs.a gq_447 rfl j).1.trans (f_448.1 j), fun j => (hs.a gq_447 rfl j).2.trans (f_448.2 j)⟩
  have hM := hM.tr (hs.mono (by decide))
  have gy := gy.S hs
  have gq_2 := gq_2.S hs
  have gq_7 := gq_7.S hs
  have gq_12 := gq_12.S hs
  have gq_17 := gq_17.S hs
  have gq_22 := gq_22.S hs
  have gq_27 := gq_27.S hs
  have gq_32 := gq_32.S hs
  have gq_222 := gq_222.S hs
  have gq_227 := gq_227.S hs
  have gq_232 := gq_232.S hs
  have gq_237 := gq_237.S hs
  have gq_242 := gq_242.S hs
  have gq_247 := gq_247.S hs
  have gq_447 := gq_447.S hs
  have f_450 : h_449.2.2 y 77 = (some q_447) := by rw [eh_449]; exact hx_pr_at _ _ _ _
  refine W.widen (k := 55) (n := 11035) (Nat.le_of_ble_eq_true rfl) (Nat.le_of_ble_eq_true rfl) ?_
  exact sg_X10_init_22 l dC dI dA L h sz y q_2 q_7 q_12 q_17 q_22 q_27 q_32 q_222 q_227 q_232 q_237 q_242 q_247 hx hb hml hr hlk hts hown hin hsz (((L1 ++ [q_437]) ++ [q_442]) ++ [q_447]) h_449 _ _ ls hW hM f_5 f_10 f_15 f_20 f_25 f_30 f_35 f_225 f_230 f_235 f_240 f_245 f_250  gy gq_2 gq_7 gq_12 gq_17 gq_22 gq_27 gq_32 gq_222 gq_227 gq_232 gq_237 gq_242 gq_247 hl

set_option maxHeartbeats 4000000 in
set_option maxRecDepth 100000 in
theorem sg_X10_init_20 (l : Launch) (dC : Nat → ClassId) (dI : Nat → Nat → Nat) (dA : Nat → ClassId) (L : List Nat) (h : hx_h) (sz : Nat) (y : Nat) (q_2 q_7 q_12 q_17 q_22 q_27 q_32 q_222 q_227 q_232 q_237 q_242 q_247 : Nat) {p : Program} {e : Env} {s : State} {m : MethodId} {below : List Frame} {meth : Method} {c : Code} (hx : p.tables.exec = Jvm.exec) (hb : c.code = cX10_init) (hml : c.maxLocals = 2) (hr : meth.sig.returnType = none) (hlk : meth.locks = false) (hts : ∀ w ∈ hx_all, w.before ([.ref y] : List Value).toArray s = true) (hown : s.vm.findClass "SmallCourtModel" = some m.cls) (hin : meth.name = "<init>") (hsz : s.heap.size = sz) (L1 : List Nat) (hl1 : hx_h) (H : Heap) (locs : List Loc) (ls : Array Slot) (hW : hx_W P_tb (P_ty dA) (dC, dI) vwCl (hx_A L sz) s.heap L1 hl1 s H locs) (hM : hx_S P_tb [(10, 2), (10, 3), (10, 4), (10, 5), (10, 6), (10, 12), (10, 14), (10, 15), (10, 16), (10, 17), (10, 18), (10, 19), (10, 21), (10, 22), (10, 23), (10, 24), (10, 25), (10, 26), (10, 27), (10, 28), (10, 30), (10, 31), (10, 32), (10, 33), (10, 34), (10, 35), (10, 37), (10, 38), (10, 39), (10, 40), (10, 41), (10, 42), (10, 43), (10, 44), (10, 45), (10, 46), (10, 47), (10, 48), (10, 49), (10, 50), (10, 51), (10, 52), (10, 53), (10, 54), (10, 55), (10, 56), (10, 58), (10, 60), (10, 61), (10, 62), (10, 63), (10, 64), (10, 65), (10, 66), (10, 73), (10, 74), (10, 76), (10, 77), (10, 78), (10, 79), (10, 80), (10, 81), (10, 82), (10, 85), (10, 88), (10, 89), (10, 91), (10, 93), (10, 94), (10, 97), (50, 0), (51, 0), (52, 0), (55, 0), (57, 0)] L h L1 hl1) (f_5 : hl1.2.2 y 2 = some q_2) (f_10 : hl1.2.2 y 3 = some q_7) (f_15 : hl1.2.2 y 4 = some q_12) (f_20 : hl1.2.2 y 5 = some q_17) (f_25 : hl1.2.2 y 6 = some q_22) (f_30 : hl1.2.2 y 12 = some q_27) (f_35 : hl1.2.2 y 15 = some q_32) (f_225 : hl1.2.2 y 21 = some q_222) (f_230 : hl1.2.2 y 22 = some q_227) (f_235 : hl1.2.2 y 23 = some q_232) (f_240 : hl1.2.2 y 24 = some q_237) (f_245 : hl1.2.2 y 25 = some q_242) (f_250 : hl1.2.2 y 26 = some q_247)  (gy : hx_g L1 hl1 y 10) (gq_2 : hx_g L1 hl1 q_2 49) (gq_7 : hx_g L1 hl1 q_7 50) (gq_12 : hx_g L1 hl1 q_12 51) (gq_17 : hx_g L1 hl1 q_17 52) (gq_22 : hx_g L1 hl1 q_22 53) (gq_27 : hx_g L1 hl1 q_27 54) (gq_32 : hx_g L1 hl1 q_32 55) (gq_222 : hx_g L1 hl1 q_222 58) (gq_227 : hx_g L1 hl1 q_227 59) (gq_232 : hx_g L1 hl1 q_232 60) (gq_237 : hx_g L1 hl1 q_237 61) (gq_242 : hx_g L1 hl1 q_242 62) (gq_247 : hx_g L1 hl1 q_247 63) (hl : lv_has ls 2 [(0, .ref y)]) : W p l e ({ frames := 2, cells := 67, slots := 15340, locals := 42 }) s m ([.ref y] : List Value).toArray below meth c H locs 49 10851 (MQ below (va_Qv (fun (u : List Nat × hx_h) => hx_S P_tb [(10, 2), (10, 3), (10, 4), (10, 5), (10, 6), (10, 12), (10, 14), (10, 15), (10, 16), (10, 17), (10, 18), (10, 19), (10, 21), (10, 22), (10, 23), (10, 24), (10, 25), (10, 26), (10, 27), (10, 28), (10, 30), (10, 31), (10, 32), (10, 33), (10, 34), (10, 35), (10, 37), (10, 38), (10, 39), (10, 40), (10, 41), (10, 42), (10, 43), (10, 44), (10, 45), (10, 46), (10, 47), (10, 48), (10, 49), (10, 50), (10, 51), (10, 52), (10, 53), (10, 54), (10, 55), (10, 56), (10, 58), (10, 60), (10, 61), (10, 62), (10, 63), (10, 64), (10, 65), (10, 66), (10, 73), (10, 74), (10, 76), (10, 77), (10, 78), (10, 79), (10, 80), (10, 81), (10, 82), (10, 85), (10, 88), (10, 89), (10, 91), (10, 93), (10, 94), (10, 97), (50, 0), (51, 0), (52, 0), (55, 0), (57, 0)] L h u.1 u.2 ∧ (∃ q, u.2.2.2 y 2 = some q ∧ hx_g u.1 u.2 q 49) ∧ (∃ q, u.2.2.2 y 3 = some q ∧ hx_g u.1 u.2 q 50 ∧ (∀ j, j < 13 → u.2.2.1 q j = P_w1 j)) ∧ (∃ q, u.2.2.2 y 4 = some q ∧ hx_g u.1 u.2 q 51) ∧ (∃ q, u.2.2.2 y 5 = some q ∧ hx_g u.1 u.2 q 52) ∧ (∃ q, u.2.2.2 y 6 = some q ∧ hx_g u.1 u.2 q 53) ∧ (∃ q, u.2.2.2 y 12 = some q ∧ hx_g u.1 u.2 q 54) ∧ (∃ q, u.2.2.2 y 15 = some q ∧ hx_g u.1 u.2 q 55) ∧ (∃ q, u.2.2.2 y 21 = some q ∧ hx_g u.1 u.2 q 58) ∧ (∃ q, u.2.2.2 y 22 = some q ∧ hx_g u.1 u.2 q 59) ∧ (∃ q, u.2.2.2 y 23 = some q ∧ hx_g u.1 u.2 q 60) ∧ (∃ q, u.2.2.2 y 24 = some q ∧ hx_g u.1 u.2 q 61) ∧ (∃ q, u.2.2.2 y 25 = some q ∧ hx_g u.1 u.2 q 62) ∧ (∃ q, u.2.2.2 y 26 = some q ∧ hx_g u.1 u.2 q 63) ∧ (∃ q, u.2.2.2 y 82 = some q ∧ hx_g u.1 u.2 q 108) ∧ (∃ q, u.2.2.2 y 94 = some q ∧ hx_g u.1 u.2 q 114)) (hx_E P_tb (P_ty dA) (dC, dI) vwCl (hx_A L sz)) (hx_A L sz)) ([.ref y] : List Value).toArray s 67 15340 (hx_A L sz)) (F0 m 1449 ls []) := by
  refine lv_aload_n hx hb dX10_init_1449 rfl (lv_at hl 0 rfl) ?_
  refine lv_bipush (v := 40) hx hb dX10_init_1450 (by decide) ?_
  refine hk_newa hx hb hts hW 98 td_98 (atype := .int) rfl kw_186 (tys := P_ty dA) (t0 := 0) rfl (fun _ => Iff.rfl) rfl (i := (40 : Int32)) (by decide) (Nat.le_of_ble_eq_true rfl) (Nat.le_of_ble_eq_true rfl) (Nat.le_of_ble_eq_true rfl) dX10_init_1452 (fun q_422 H h_421 eh_421 hqq_422 hW hs gq_422 => ?_)
  have f_5 := (hs.o gy trivial rfl).2.trans f_5
  have f_10 := (hs.o gy trivial rfl).2.trans f_10
  have f_15 := (hs.o gy trivial rfl).2.trans f_15
  have f_20 := (hs.o gy trivial rfl).2.trans f_20
  have f_25 := (hs.o gy trivial rfl).2.trans f_25
  have f_30 := (hs.o gy trivial rfl).2.trans f_30
  have f_35 := (hs.o gy trivial rfl).2.trans f_35
  have f_225 := (hs.o gy trivial rfl).2.trans f_225
  have f_230 := (hs.o gy trivial rfl).2.trans f_230
  have f_235 := (hs.o gy trivial rfl).2.trans f_235
  have f_240 := (hs.o gy trivial rfl).2.trans f_240
  have f_245 := (hs.o gy trivial rfl).2.trans f_245
  have f_250 := (hs.o gy trivial rfl).2.trans f_250
  have hM := hM.tr (hs.mono (by decide))
  have gy := gy.S hs
  have gq_2 := gq_2.S hs
  have gq_7 := gq_7.S hs
  have gq_12 := gq_12.S hs
  have gq_17 := gq_17.S hs
  have gq_22 := gq_22.S hs
  have gq_27 := gq_27.S hs
  have gq_32 := gq_32.S hs
  have gq_222 := gq_222.S hs
  have gq_227 := gq_227.S hs
  have gq_232 := gq_232.S hs
  have gq_237 := gq_237.S hs
  have gq_242 := gq_242.S hs
  have gq_247 := gq_247.S hs
  have f_423 : (∀ j, h_421.2.1 q_422 j = 0) ∧ ∀ j, h_421.2.2 q_422 j = none := by rw [eh_421]; exact ⟨fun _ => hx_nw_i, fun _ => hx_nw_r⟩
  refine hk_putrF hx hb hts hC_10 hown hW gy td_10 65 (by decide) rfl kw_1208 ⟨rfl, rfl, rfl⟩ rfl hin rfl (x := (some q_422)) rfl rfl rfl dX10_init_1454 (fun H locs h_424 eh_424 hW hs => ?_)
  have f_5 := (hs.o gy trivial rfl).2.trans f_5
  have f_10 := (hs.o gy trivial rfl).2.trans f_10
  have f_15 := (hs.o gy trivial rfl).2.trans f_15
  have f_20 := (hs.o gy trivial rfl).2.trans f_20
  have f_25 := (hs.o gy trivial rfl).2.trans f_25
  have f_30 := (hs.o gy trivial rfl).2.trans f_30
  have f_35 := (hs.o gy trivial rfl).2.trans f_35
  have f_225 := (hs.o gy trivial rfl).2.trans f_225
  have f_230 := (hs.o gy trivial rfl).2.trans f_230
  have f_235 := (hs.o gy trivial rfl).2.trans f_235
  have f_240 := (hs.o gy trivial rfl).2.trans f_240
  have f_245 := (hs.o gy trivial rfl).2.trans f_245
  have f_250 := (hs.o gy trivial rfl).2.trans f_250
  have f_423 : _ ∧ _ := ⟨fun j => (hs.a gq_422 rfl j).1.trans (f_423.1 j), fun j => (hs.a gq_422 rfl j).2.trans (f_423.2 j)⟩
  have hM := hM.tr (hs.mono (by decide))
  have gy := gy.S hs
  have gq_2 := gq_2.S hs
  have gq_7 := gq_7.S hs
  have gq_12 := gq_12.S hs
  have gq_17 := gq_17.S hs
  have gq_22 := gq_22.S hs
  have gq_27 := gq_27.S hs
  have gq_32 := gq_32.S hs
  have gq_222 := gq_222.S hs
  have gq_227 := gq_227.S hs
  have gq_232 := gq_232.S hs
  have gq_237 := gq_237.S hs
  have gq_242 := gq_242.S hs
  have gq_247 := gq_247.S hs
  have gq_422 := gq_422.S hs
  have f_425 : h_424.2.2 y 65 = (some q_422) := by rw [eh_424]; exact hx_pr_at _ _ _ _
  refine lv_aload_n hx hb dX10_init_1457 rfl (lv_at hl 0 rfl) ?_
  refine lv_sipush (v := 128) hx hb dX10_init_1458 (by decide) ?_
  refine hk_newa hx hb hts hW 99 td_99 (atype := .boolean) rfl kw_222 (tys := P_ty dA) (t0 := 2) rfl (fun _ => Iff.rfl) rfl (i := (128 : Int32)) (by decide) (Nat.le_of_ble_eq_true rfl) (Nat.le_of_ble_eq_true rfl) (Nat.le_of_ble_eq_true rfl) dX10_init_1461 (fun q_427 H h_426 eh_426 hqq_427 hW hs gq_427 => ?_)
  have f_5 := (hs.o gy trivial rfl).2.trans f_5
  have f_10 := (hs.o gy trivial rfl).2.trans f_10
  have f_15 := (hs.o gy trivial rfl).2.trans f_15
  have f_20 := (hs.o gy trivial rfl).2.trans f_20
  have f_25 := (hs.o gy trivial rfl).2.trans f_25
  have f_30 := (hs.o gy trivial rfl).2.trans f_30
  have f_35 := (hs.o gy trivial rfl).2.trans f_35
  have f_225 := (hs.o gy trivial rfl).2.trans f_225
  have f_230 := (hs.o gy trivial rfl).2.trans f_230
  have f_235 := (hs.o gy trivial rfl).2.trans f_235
  have f_240 := (hs.o gy trivial rfl).2.trans f_240
  have f_245 := (hs.o gy trivial rfl).2.trans f_245
  have f_250 := (hs.o gy trivial rfl).2.trans f_250
  have hM := hM.tr (hs.mono (by decide))
  have gy := gy.S hs
  have gq_2 := gq_2.S hs
  have gq_7 := gq_7.S hs
  have gq_12 := gq_12.S hs
  have gq_17 := gq_17.S hs
  have gq_22 := gq_22.S hs
  have gq_27 := gq_27.S hs
  have gq_32 := gq_32.S hs
  have gq_222 := gq_222.S hs
  have gq_227 := gq_227.S hs
  have gq_232 := gq_232.S hs
  have gq_237 := gq_237.S hs
  have gq_242 := gq_242.S hs
  have gq_247 := gq_247.S hs
  have f_428 : (∀ j, h_426.2.1 q_427 j = 0) ∧ ∀ j, h_426.2.2 q_427 j = none := by rw [eh_426]; exact ⟨fun _ => hx_nw_i, fun _ => hx_nw_r⟩
  refine hk_putrF hx hb hts hC_10 hown hW gy td_10 66 (by decide) rfl kw_1209 ⟨rfl, rfl, rfl⟩ rfl hin rfl (x := (some q_427)) rfl rfl rfl dX10_init_1463 (fun H locs h_429 eh_429 hW hs => ?_)
  have f_5 := (hs.o gy trivial rfl).2.trans f_5
  have f_10 := (hs.o gy trivial rfl).2.trans f_10
  have f_15 := (hs.o gy trivial rfl).2.trans f_15
  have f_20 := (hs.o gy trivial rfl).2.trans f_20
  have f_25 := (hs.o gy trivial rfl).2.trans f_25
  have f_30 := (hs.o gy trivial rfl).2.trans f_30
  have f_35 := (hs.o gy trivial rfl).2.trans f_35
  have f_225 := (hs.o gy trivial rfl).2.trans f_225
  have f_230 := (hs.o gy trivial rfl).2.trans f_230
  have f_235 := (hs.o gy trivial rfl).2.trans f_235
  have f_240 := (hs.o gy trivial rfl).2.trans f_240
  have f_245 := (hs.o gy trivial rfl).2.trans f_245
  have f_250 := (hs.o gy trivial rfl).2.trans f_250
  have f_428 : _ ∧ _ := ⟨fun j => (hs.a gq_427 rfl j).1.trans (f_428.1 j), fun j => (hs.a gq_427 rfl j).2.trans (f_428.2 j)⟩
  have hM := hM.tr (hs.mono (by decide))
  have gy := gy.S hs
  have gq_2 := gq_2.S hs
  have gq_7 := gq_7.S hs
  have gq_12 := gq_12.S hs
  have gq_17 := gq_17.S hs
  have gq_22 := gq_22.S hs
  have gq_27 := gq_27.S hs
  have gq_32 := gq_32.S hs
  have gq_222 := gq_222.S hs
  have gq_227 := gq_227.S hs
  have gq_232 := gq_232.S hs
  have gq_237 := gq_237.S hs
  have gq_242 := gq_242.S hs
  have gq_247 := gq_247.S hs
  have gq_427 := gq_427.S hs
  have f_430 : h_429.2.2 y 66 = (some q_427) := by rw [eh_429]; exact hx_pr_at _ _ _ _
  refine lv_aload_n hx hb dX10_init_1466 rfl (lv_at hl 0 rfl) ?_
  refine lv_iconst (v := 4) hx hb dX10_init_1467 (by decide) ?_
  refine hk_newa hx hb hts hW 100 td_100 (atype := .int) rfl kw_186 (tys := P_ty dA) (t0 := 0) rfl (fun _ => Iff.rfl) rfl (i := (4 : Int32)) (by decide) (Nat.le_of_ble_eq_true rfl) (Nat.le_of_ble_eq_true rfl) (Nat.le_of_ble_eq_true rfl) dX10_init_1468 (fun q_432 H h_431 eh_431 hqq_432 hW hs gq_432 => ?_)
  have f_5 := (hs.o gy trivial rfl).2.trans f_5
  have f_10 := (hs.o gy trivial rfl).2.trans f_10
  have f_15 := (hs.o gy trivial rfl).2.trans f_15
  have f_20 := (hs.o gy trivial rfl).2.trans f_20
  have f_25 := (hs.o gy trivial rfl).2.trans f_25
  have f_30 := (hs.o gy trivial rfl).2.trans f_30
  have f_35 := (hs.o gy trivial rfl).2.trans f_35
  have f_225 := (hs.o gy trivial rfl).2.trans f_225
  have f_230 := (hs.o gy trivial rfl).2.trans f_230
  have f_235 := (hs.o gy trivial rfl).2.trans f_235
  have f_240 := (hs.o gy trivial rfl).2.trans f_240
  have f_245 := (hs.o gy trivial rfl).2.trans f_245
  have f_250 := (hs.o gy trivial rfl).2.trans f_250
  have hM := hM.tr (hs.mono (by decide))
  have gy := gy.S hs
  have gq_2 := gq_2.S hs
  have gq_7 := gq_7.S hs
  have gq_12 := gq_12.S hs
  have gq_17 := gq_17.S hs
  have gq_22 := gq_22.S hs
  have gq_27 := gq_27.S hs
  have gq_32 := gq_32.S hs
  have gq_222 := gq_222.S hs
  have gq_227 := gq_227.S hs
  have gq_232 := gq_232.S hs
  have gq_237 := gq_237.S hs
  have gq_242 := gq_242.S hs
  have gq_247 := gq_247.S hs
  have f_433 : (∀ j, h_431.2.1 q_432 j = 0) ∧ ∀ j, h_431.2.2 q_432 j = none := by rw [eh_431]; exact ⟨fun _ => hx_nw_i, fun _ => hx_nw_r⟩
  refine hk_putrF hx hb hts hC_10 hown hW gy td_10 73 (by decide) rfl kw_1216 ⟨rfl, rfl, rfl⟩ rfl hin rfl (x := (some q_432)) rfl rfl rfl dX10_init_1470 (fun H locs h_434 eh_434 hW hs => ?_)
  have f_5 := (hs.o gy trivial rfl).2.trans f_5
  have f_10 := (hs.o gy trivial rfl).2.trans f_10
  have f_15 := (hs.o gy trivial rfl).2.trans f_15
  have f_20 := (hs.o gy trivial rfl).2.trans f_20
  have f_25 := (hs.o gy trivial rfl).2.trans f_25
  have f_30 := (hs.o gy trivial rfl).2.trans f_30
  have f_35 := (hs.o gy trivial rfl).2.trans f_35
  have f_225 := (hs.o gy trivial rfl).2.trans f_225
  have f_230 := (hs.o gy trivial rfl).2.trans f_230
  have f_235 := (hs.o gy trivial rfl).2.trans f_235
  have f_240 := (hs.o gy trivial rfl).2.trans f_240
  have f_245 := (hs.o gy trivial rfl).2.trans f_245
  have f_250 := (hs.o gy trivial rfl).2.trans f_250
  have f_433 : _ ∧ _ := ⟨fun j => (hs.a gq_432 rfl j).1.trans (f_433.1 j), fun j => (hs.a gq_432 rfl j).2.trans (f_433.2 j)⟩
  have hM := hM.tr (hs.mono (by decide))
  have gy := gy.S hs
  have gq_2 := gq_2.S hs
  have gq_7 := gq_7.S hs
  have gq_12 := gq_12.S hs
  have gq_17 := gq_17.S hs
  have gq_22 := gq_22.S hs
  have gq_27 := gq_27.S hs
  have gq_32 := gq_32.S hs
  have gq_222 := gq_222.S hs
  have gq_227 := gq_227.S hs
  have gq_232 := gq_232.S hs
  have gq_237 := gq_237.S hs
  have gq_242 := gq_242.S hs
  have gq_247 := gq_247.S hs
  have gq_432 := gq_432.S hs
  have f_435 : h_434.2.2 y 73 = (some q_432) := by rw [eh_434]; exact hx_pr_at _ _ _ _
  refine W.widen (k := 52) (n := 11023) (Nat.le_of_ble_eq_true rfl) (Nat.le_of_ble_eq_true rfl) ?_
  exact sg_X10_init_21 l dC dI dA L h sz y q_2 q_7 q_12 q_17 q_22 q_27 q_32 q_222 q_227 q_232 q_237 q_242 q_247 hx hb hml hr hlk hts hown hin hsz (((L1 ++ [q_422]) ++ [q_427]) ++ [q_432]) h_434 _ _ ls hW hM f_5 f_10 f_15 f_20 f_25 f_30 f_35 f_225 f_230 f_235 f_240 f_245 f_250  gy gq_2 gq_7 gq_12 gq_17 gq_22 gq_27 gq_32 gq_222 gq_227 gq_232 gq_237 gq_242 gq_247 hl

set_option maxHeartbeats 4000000 in
set_option maxRecDepth 100000 in
theorem sg_X10_init_19 (l : Launch) (dC : Nat → ClassId) (dI : Nat → Nat → Nat) (dA : Nat → ClassId) (L : List Nat) (h : hx_h) (sz : Nat) (y : Nat) (q_2 q_7 q_12 q_17 q_22 q_27 q_32 q_222 q_227 q_232 q_237 q_242 q_247 : Nat) {p : Program} {e : Env} {s : State} {m : MethodId} {below : List Frame} {meth : Method} {c : Code} (hx : p.tables.exec = Jvm.exec) (hb : c.code = cX10_init) (hml : c.maxLocals = 2) (hr : meth.sig.returnType = none) (hlk : meth.locks = false) (hts : ∀ w ∈ hx_all, w.before ([.ref y] : List Value).toArray s = true) (hown : s.vm.findClass "SmallCourtModel" = some m.cls) (hin : meth.name = "<init>") (hsz : s.heap.size = sz) (L1 : List Nat) (hl1 : hx_h) (H : Heap) (locs : List Loc) (ls : Array Slot) (hW : hx_W P_tb (P_ty dA) (dC, dI) vwCl (hx_A L sz) s.heap L1 hl1 s H locs) (hM : hx_S P_tb [(10, 2), (10, 3), (10, 4), (10, 5), (10, 6), (10, 12), (10, 14), (10, 15), (10, 16), (10, 17), (10, 18), (10, 19), (10, 21), (10, 22), (10, 23), (10, 24), (10, 25), (10, 26), (10, 27), (10, 28), (10, 30), (10, 31), (10, 32), (10, 33), (10, 34), (10, 35), (10, 37), (10, 38), (10, 39), (10, 40), (10, 41), (10, 42), (10, 43), (10, 44), (10, 45), (10, 46), (10, 47), (10, 48), (10, 49), (10, 50), (10, 51), (10, 52), (10, 53), (10, 54), (10, 55), (10, 56), (10, 58), (10, 60), (10, 61), (10, 62), (10, 63), (10, 64), (10, 65), (10, 66), (10, 73), (10, 74), (10, 76), (10, 77), (10, 78), (10, 79), (10, 80), (10, 81), (10, 82), (10, 85), (10, 88), (10, 89), (10, 91), (10, 93), (10, 94), (10, 97), (50, 0), (51, 0), (52, 0), (55, 0), (57, 0)] L h L1 hl1) (f_5 : hl1.2.2 y 2 = some q_2) (f_10 : hl1.2.2 y 3 = some q_7) (f_15 : hl1.2.2 y 4 = some q_12) (f_20 : hl1.2.2 y 5 = some q_17) (f_25 : hl1.2.2 y 6 = some q_22) (f_30 : hl1.2.2 y 12 = some q_27) (f_35 : hl1.2.2 y 15 = some q_32) (f_225 : hl1.2.2 y 21 = some q_222) (f_230 : hl1.2.2 y 22 = some q_227) (f_235 : hl1.2.2 y 23 = some q_232) (f_240 : hl1.2.2 y 24 = some q_237) (f_245 : hl1.2.2 y 25 = some q_242) (f_250 : hl1.2.2 y 26 = some q_247)  (gy : hx_g L1 hl1 y 10) (gq_2 : hx_g L1 hl1 q_2 49) (gq_7 : hx_g L1 hl1 q_7 50) (gq_12 : hx_g L1 hl1 q_12 51) (gq_17 : hx_g L1 hl1 q_17 52) (gq_22 : hx_g L1 hl1 q_22 53) (gq_27 : hx_g L1 hl1 q_27 54) (gq_32 : hx_g L1 hl1 q_32 55) (gq_222 : hx_g L1 hl1 q_222 58) (gq_227 : hx_g L1 hl1 q_227 59) (gq_232 : hx_g L1 hl1 q_232 60) (gq_237 : hx_g L1 hl1 q_237 61) (gq_242 : hx_g L1 hl1 q_242 62) (gq_247 : hx_g L1 hl1 q_247 63) (hl : lv_has ls 2 [(0, .ref y)]) : W p l e ({ frames := 2, cells := 67, slots := 15340, locals := 42 }) s m ([.ref y] : List Value).toArray below meth c H locs 46 9051 (MQ below (va_Qv (fun (u : List Nat × hx_h) => hx_S P_tb [(10, 2), (10, 3), (10, 4), (10, 5), (10, 6), (10, 12), (10, 14), (10, 15), (10, 16), (10, 17), (10, 18), (10, 19), (10, 21), (10, 22), (10, 23), (10, 24), (10, 25), (10, 26), (10, 27), (10, 28), (10, 30), (10, 31), (10, 32), (10, 33), (10, 34), (10, 35), (10, 37), (10, 38), (10, 39), (10, 40), (10, 41), (10, 42), (10, 43), (10, 44), (10, 45), (10, 46), (10, 47), (10, 48), (10, 49), (10, 50), (10, 51), (10, 52), (10, 53), (10, 54), (10, 55), (10, 56), (10, 58), (10, 60), (10, 61), (10, 62), (10, 63), (10, 64), (10, 65), (10, 66), (10, 73), (10, 74), (10, 76), (10, 77), (10, 78), (10, 79), (10, 80), (10, 81), (10, 82), (10, 85), (10, 88), (10, 89), (10, 91), (10, 93), (10, 94), (10, 97), (50, 0), (51, 0), (52, 0), (55, 0), (57, 0)] L h u.1 u.2 ∧ (∃ q, u.2.2.2 y 2 = some q ∧ hx_g u.1 u.2 q 49) ∧ (∃ q, u.2.2.2 y 3 = some q ∧ hx_g u.1 u.2 q 50 ∧ (∀ j, j < 13 → u.2.2.1 q j = P_w1 j)) ∧ (∃ q, u.2.2.2 y 4 = some q ∧ hx_g u.1 u.2 q 51) ∧ (∃ q, u.2.2.2 y 5 = some q ∧ hx_g u.1 u.2 q 52) ∧ (∃ q, u.2.2.2 y 6 = some q ∧ hx_g u.1 u.2 q 53) ∧ (∃ q, u.2.2.2 y 12 = some q ∧ hx_g u.1 u.2 q 54) ∧ (∃ q, u.2.2.2 y 15 = some q ∧ hx_g u.1 u.2 q 55) ∧ (∃ q, u.2.2.2 y 21 = some q ∧ hx_g u.1 u.2 q 58) ∧ (∃ q, u.2.2.2 y 22 = some q ∧ hx_g u.1 u.2 q 59) ∧ (∃ q, u.2.2.2 y 23 = some q ∧ hx_g u.1 u.2 q 60) ∧ (∃ q, u.2.2.2 y 24 = some q ∧ hx_g u.1 u.2 q 61) ∧ (∃ q, u.2.2.2 y 25 = some q ∧ hx_g u.1 u.2 q 62) ∧ (∃ q, u.2.2.2 y 26 = some q ∧ hx_g u.1 u.2 q 63) ∧ (∃ q, u.2.2.2 y 82 = some q ∧ hx_g u.1 u.2 q 108) ∧ (∃ q, u.2.2.2 y 94 = some q ∧ hx_g u.1 u.2 q 114)) (hx_E P_tb (P_ty dA) (dC, dI) vwCl (hx_A L sz)) (hx_A L sz)) ([.ref y] : List Value).toArray s 67 15340 (hx_A L sz)) (F0 m 1422 ls []) := by
  refine lv_aload_n hx hb dX10_init_1422 rfl (lv_at hl 0 rfl) ?_
  refine lv_sipush (v := 600) hx hb dX10_init_1423 (by decide) ?_
  refine hk_newa hx hb hts hW 95 td_95 (atype := .int) rfl kw_186 (tys := P_ty dA) (t0 := 0) rfl (fun _ => Iff.rfl) rfl (i := (600 : Int32)) (by decide) (Nat.le_of_ble_eq_true rfl) (Nat.le_of_ble_eq_true rfl) (Nat.le_of_ble_eq_true rfl) dX10_init_1426 (fun q_407 H h_406 eh_406 hqq_407 hW hs gq_407 => ?_)
  have f_5 := (hs.o gy trivial rfl).2.trans f_5
  have f_10 := (hs.o gy trivial rfl).2.trans f_10
  have f_15 := (hs.o gy trivial rfl).2.trans f_15
  have f_20 := (hs.o gy trivial rfl).2.trans f_20
  have f_25 := (hs.o gy trivial rfl).2.trans f_25
  have f_30 := (hs.o gy trivial rfl).2.trans f_30
  have f_35 := (hs.o gy trivial rfl).2.trans f_35
  have f_225 := (hs.o gy trivial rfl).2.trans f_225
  have f_230 := (hs.o gy trivial rfl).2.trans f_230
  have f_235 := (hs.o gy trivial rfl).2.trans f_235
  have f_240 := (hs.o gy trivial rfl).2.trans f_240
  have f_245 := (hs.o gy trivial rfl).2.trans f_245
  have f_250 := (hs.o gy trivial rfl).2.trans f_250
  have hM := hM.tr (hs.mono (by decide))
  have gy := gy.S hs
  have gq_2 := gq_2.S hs
  have gq_7 := gq_7.S hs
  have gq_12 := gq_12.S hs
  have gq_17 := gq_17.S hs
  have gq_22 := gq_22.S hs
  have gq_27 := gq_27.S hs
  have gq_32 := gq_32.S hs
  have gq_222 := gq_222.S hs
  have gq_227 := gq_227.S hs
  have gq_232 := gq_232.S hs
  have gq_237 := gq_237.S hs
  have gq_242 := gq_242.S hs
  have gq_247 := gq_247.S hs
  have f_408 : (∀ j, h_406.2.1 q_407 j = 0) ∧ ∀ j, h_406.2.2 q_407 j = none := by rw [eh_406]; exact ⟨fun _ => hx_nw_i, fun _ => hx_nw_r⟩
  refine hk_putrF hx hb hts hC_10 hown hW gy td_10 62 (by decide) rfl kw_1205 ⟨rfl, rfl, rfl⟩ rfl hin rfl (x := (some q_407)) rfl rfl rfl dX10_init_1428 (fun H locs h_409 eh_409 hW hs => ?_)
  have f_5 := (hs.o gy trivial rfl).2.trans f_5
  have f_10 := (hs.o gy trivial rfl).2.trans f_10
  have f_15 := (hs.o gy trivial rfl).2.trans f_15
  have f_20 := (hs.o gy trivial rfl).2.trans f_20
  have f_25 := (hs.o gy trivial rfl).2.trans f_25
  have f_30 := (hs.o gy trivial rfl).2.trans f_30
  have f_35 := (hs.o gy trivial rfl).2.trans f_35
  have f_225 := (hs.o gy trivial rfl).2.trans f_225
  have f_230 := (hs.o gy trivial rfl).2.trans f_230
  have f_235 := (hs.o gy trivial rfl).2.trans f_235
  have f_240 := (hs.o gy trivial rfl).2.trans f_240
  have f_245 := (hs.o gy trivial rfl).2.trans f_245
  have f_250 := (hs.o gy trivial rfl).2.trans f_250
  have f_408 : _ ∧ _ := ⟨fun j => (hs.a gq_407 rfl j).1.trans (f_408.1 j), fun j => (hs.a gq_407 rfl j).2.trans (f_408.2 j)⟩
  have hM := hM.tr (hs.mono (by decide))
  have gy := gy.S hs
  have gq_2 := gq_2.S hs
  have gq_7 := gq_7.S hs
  have gq_12 := gq_12.S hs
  have gq_17 := gq_17.S hs
  have gq_22 := gq_22.S hs
  have gq_27 := gq_27.S hs
  have gq_32 := gq_32.S hs
  have gq_222 := gq_222.S hs
  have gq_227 := gq_227.S hs
  have gq_232 := gq_232.S hs
  have gq_237 := gq_237.S hs
  have gq_242 := gq_242.S hs
  have gq_247 := gq_247.S hs
  have gq_407 := gq_407.S hs
  have f_410 : h_409.2.2 y 62 = (some q_407) := by rw [eh_409]; exact hx_pr_at _ _ _ _
  refine lv_aload_n hx hb dX10_init_1431 rfl (lv_at hl 0 rfl) ?_
  refine lv_sipush (v := 600) hx hb dX10_init_1432 (by decide) ?_
  refine hk_newa hx hb hts hW 96 td_96 (atype := .int) rfl kw_186 (tys := P_ty dA) (t0 := 0) rfl (fun _ => Iff.rfl) rfl (i := (600 : Int32)) (by decide) (Nat.le_of_ble_eq_true rfl) (Nat.le_of_ble_eq_true rfl) (Nat.le_of_ble_eq_true rfl) dX10_init_1435 (fun q_412 H h_411 eh_411 hqq_412 hW hs gq_412 => ?_)
  have f_5 := (hs.o gy trivial rfl).2.trans f_5
  have f_10 := (hs.o gy trivial rfl).2.trans f_10
  have f_15 := (hs.o gy trivial rfl).2.trans f_15
  have f_20 := (hs.o gy trivial rfl).2.trans f_20
  have f_25 := (hs.o gy trivial rfl).2.trans f_25
  have f_30 := (hs.o gy trivial rfl).2.trans f_30
  have f_35 := (hs.o gy trivial rfl).2.trans f_35
  have f_225 := (hs.o gy trivial rfl).2.trans f_225
  have f_230 := (hs.o gy trivial rfl).2.trans f_230
  have f_235 := (hs.o gy trivial rfl).2.trans f_235
  have f_240 := (hs.o gy trivial rfl).2.trans f_240
  have f_245 := (hs.o gy trivial rfl).2.trans f_245
  have f_250 := (hs.o gy trivial rfl).2.trans f_250
  have hM := hM.tr (hs.mono (by decide))
  have gy := gy.S hs
  have gq_2 := gq_2.S hs
  have gq_7 := gq_7.S hs
  have gq_12 := gq_12.S hs
  have gq_17 := gq_17.S hs
  have gq_22 := gq_22.S hs
  have gq_27 := gq_27.S hs
  have gq_32 := gq_32.S hs
  have gq_222 := gq_222.S hs
  have gq_227 := gq_227.S hs
  have gq_232 := gq_232.S hs
  have gq_237 := gq_237.S hs
  have gq_242 := gq_242.S hs
  have gq_247 := gq_247.S hs
  have f_413 : (∀ j, h_411.2.1 q_412 j = 0) ∧ ∀ j, h_411.2.2 q_412 j = none := by rw [eh_411]; exact ⟨fun _ => hx_nw_i, fun _ => hx_nw_r⟩
  refine hk_putrF hx hb hts hC_10 hown hW gy td_10 63 (by decide) rfl kw_1206 ⟨rfl, rfl, rfl⟩ rfl hin rfl (x := (some q_412)) rfl rfl rfl dX10_init_1437 (fun H locs h_414 eh_414 hW hs => ?_)
  have f_5 := (hs.o gy trivial rfl).2.trans f_5
  have f_10 := (hs.o gy trivial rfl).2.trans f_10
  have f_15 := (hs.o gy trivial rfl).2.trans f_15
  have f_20 := (hs.o gy trivial rfl).2.trans f_20
  have f_25 := (hs.o gy trivial rfl).2.trans f_25
  have f_30 := (hs.o gy trivial rfl).2.trans f_30
  have f_35 := (hs.o gy trivial rfl).2.trans f_35
  have f_225 := (hs.o gy trivial rfl).2.trans f_225
  have f_230 := (hs.o gy trivial rfl).2.trans f_230
  have f_235 := (hs.o gy trivial rfl).2.trans f_235
  have f_240 := (hs.o gy trivial rfl).2.trans f_240
  have f_245 := (hs.o gy trivial rfl).2.trans f_245
  have f_250 := (hs.o gy trivial rfl).2.trans f_250
  have f_413 : _ ∧ _ := ⟨fun j => (hs.a gq_412 rfl j).1.trans (f_413.1 j), fun j => (hs.a gq_412 rfl j).2.trans (f_413.2 j)⟩
  have hM := hM.tr (hs.mono (by decide))
  have gy := gy.S hs
  have gq_2 := gq_2.S hs
  have gq_7 := gq_7.S hs
  have gq_12 := gq_12.S hs
  have gq_17 := gq_17.S hs
  have gq_22 := gq_22.S hs
  have gq_27 := gq_27.S hs
  have gq_32 := gq_32.S hs
  have gq_222 := gq_222.S hs
  have gq_227 := gq_227.S hs
  have gq_232 := gq_232.S hs
  have gq_237 := gq_237.S hs
  have gq_242 := gq_242.S hs
  have gq_247 := gq_247.S hs
  have gq_412 := gq_412.S hs
  have f_415 : h_414.2.2 y 63 = (some q_412) := by rw [eh_414]; exact hx_pr_at _ _ _ _
  refine lv_aload_n hx hb dX10_init_1440 rfl (lv_at hl 0 rfl) ?_
  refine lv_sipush (v := 600) hx hb dX10_init_1441 (by decide) ?_
  refine hk_newa hx hb hts hW 97 td_97 (atype := .int) rfl kw_186 (tys := P_ty dA) (t0 := 0) rfl (fun _ => Iff.rfl) rfl (i := (600 : Int32)) (by decide) (Nat.le_of_ble_eq_true rfl) (Nat.le_of_ble_eq_true rfl) (Nat.le_of_ble_eq_true rfl) dX10_init_1444 (fun q_417 H h_416 eh_416 hqq_417 hW hs gq_417 => ?_)
  have f_5 := (hs.o gy trivial rfl).2.trans f_5
  have f_10 := (hs.o gy trivial rfl).2.trans f_10
  have f_15 := (hs.o gy trivial rfl).2.trans f_15
  have f_20 := (hs.o gy trivial rfl).2.trans f_20
  have f_25 := (hs.o gy trivial rfl).2.trans f_25
  have f_30 := (hs.o gy trivial rfl).2.trans f_30
  have f_35 := (hs.o gy trivial rfl).2.trans f_35
  have f_225 := (hs.o gy trivial rfl).2.trans f_225
  have f_230 := (hs.o gy trivial rfl).2.trans f_230
  have f_235 := (hs.o gy trivial rfl).2.trans f_235
  have f_240 := (hs.o gy trivial rfl).2.trans f_240
  have f_245 := (hs.o gy trivial rfl).2.trans f_245
  have f_250 := (hs.o gy trivial rfl).2.trans f_250
  have hM := hM.tr (hs.mono (by decide))
  have gy := gy.S hs
  have gq_2 := gq_2.S hs
  have gq_7 := gq_7.S hs
  have gq_12 := gq_12.S hs
  have gq_17 := gq_17.S hs
  have gq_22 := gq_22.S hs
  have gq_27 := gq_27.S hs
  have gq_32 := gq_32.S hs
  have gq_222 := gq_222.S hs
  have gq_227 := gq_227.S hs
  have gq_232 := gq_232.S hs
  have gq_237 := gq_237.S hs
  have gq_242 := gq_242.S hs
  have gq_247 := gq_247.S hs
  have f_418 : (∀ j, h_416.2.1 q_417 j = 0) ∧ ∀ j, h_416.2.2 q_417 j = none := by rw [eh_416]; exact ⟨fun _ => hx_nw_i, fun _ => hx_nw_r⟩
  refine hk_putrF hx hb hts hC_10 hown hW gy td_10 64 (by decide) rfl kw_1207 ⟨rfl, rfl, rfl⟩ rfl hin rfl (x := (some q_417)) rfl rfl rfl dX10_init_1446 (fun H locs h_419 eh_419 hW hs => ?_)
  have f_5 := (hs.o gy trivial rfl).2.trans f_5
  have f_10 := (hs.o gy trivial rfl).2.trans f_10
  have f_15 := (hs.o gy trivial rfl).2.trans f_15
  have f_20 := (hs.o gy trivial rfl).2.trans f_20
  have f_25 := (hs.o gy trivial rfl).2.trans f_25
  have f_30 := (hs.o gy trivial rfl).2.trans f_30
  have f_35 := (hs.o gy trivial rfl).2.trans f_35
  have f_225 := (hs.o gy trivial rfl).2.trans f_225
  have f_230 := (hs.o gy trivial rfl).2.trans f_230
  have f_235 := (hs.o gy trivial rfl).2.trans f_235
  have f_240 := (hs.o gy trivial rfl).2.trans f_240
  have f_245 := (hs.o gy trivial rfl).2.trans f_245
  have f_250 := (hs.o gy trivial rfl).2.trans f_250
  have f_418 : _ ∧ _ := ⟨fun j => (hs.a gq_417 rfl j).1.trans (f_418.1 j), fun j => (hs.a gq_417 rfl j).2.trans (f_418.2 j)⟩
  have hM := hM.tr (hs.mono (by decide))
  have gy := gy.S hs
  have gq_2 := gq_2.S hs
  have gq_7 := gq_7.S hs
  have gq_12 := gq_12.S hs
  have gq_17 := gq_17.S hs
  have gq_22 := gq_22.S hs
  have gq_27 := gq_27.S hs
  have gq_32 := gq_32.S hs
  have gq_222 := gq_222.S hs
  have gq_227 := gq_227.S hs
  have gq_232 := gq_232.S hs
  have gq_237 := gq_237.S hs
  have gq_242 := gq_242.S hs
  have gq_247 := gq_247.S hs
  have gq_417 := gq_417.S hs
  have f_420 : h_419.2.2 y 64 = (some q_417) := by rw [eh_419]; exact hx_pr_at _ _ _ _
  refine W.widen (k := 49) (n := 10851) (Nat.le_of_ble_eq_true rfl) (Nat.le_of_ble_eq_true rfl) ?_
  exact sg_X10_init_20 l dC dI dA L h sz y q_2 q_7 q_12 q_17 q_22 q_27 q_32 q_222 q_227 q_232 q_237 q_242 q_247 hx hb hml hr hlk hts hown hin hsz (((L1 ++ [q_407]) ++ [q_412]) ++ [q_417]) h_419 _ _ ls hW hM f_5 f_10 f_15 f_20 f_25 f_30 f_35 f_225 f_230 f_235 f_240 f_245 f_250  gy gq_2 gq_7 gq_12 gq_17 gq_22 gq_27 gq_32 gq_222 gq_227 gq_232 gq_237 gq_242 gq_247 hl

set_option maxHeartbeats 4000000 in
set_option maxRecDepth 100000 in
theorem sg_X10_init_18 (l : Launch) (dC : Nat → ClassId) (dI : Nat → Nat → Nat) (dA : Nat → ClassId) (L : List Nat) (h : hx_h) (sz : Nat) (y : Nat) (q_2 q_7 q_12 q_17 q_22 q_27 q_32 q_222 q_227 q_232 q_237 q_242 q_247 : Nat) {p : Program} {e : Env} {s : State} {m : MethodId} {below : List Frame} {meth : Method} {c : Code} (hx : p.tables.exec = Jvm.exec) (hb : c.code = cX10_init) (hml : c.maxLocals = 2) (hr : meth.sig.returnType = none) (hlk : meth.locks = false) (hts : ∀ w ∈ hx_all, w.before ([.ref y] : List Value).toArray s = true) (hown : s.vm.findClass "SmallCourtModel" = some m.cls) (hin : meth.name = "<init>") (hsz : s.heap.size = sz) (L1 : List Nat) (hl1 : hx_h) (H : Heap) (locs : List Loc) (ls : Array Slot) (hW : hx_W P_tb (P_ty dA) (dC, dI) vwCl (hx_A L sz) s.heap L1 hl1 s H locs) (hM : hx_S P_tb [(10, 2), (10, 3), (10, 4), (10, 5), (10, 6), (10, 12), (10, 14), (10, 15), (10, 16), (10, 17), (10, 18), (10, 19), (10, 21), (10, 22), (10, 23), (10, 24), (10, 25), (10, 26), (10, 27), (10, 28), (10, 30), (10, 31), (10, 32), (10, 33), (10, 34), (10, 35), (10, 37), (10, 38), (10, 39), (10, 40), (10, 41), (10, 42), (10, 43), (10, 44), (10, 45), (10, 46), (10, 47), (10, 48), (10, 49), (10, 50), (10, 51), (10, 52), (10, 53), (10, 54), (10, 55), (10, 56), (10, 58), (10, 60), (10, 61), (10, 62), (10, 63), (10, 64), (10, 65), (10, 66), (10, 73), (10, 74), (10, 76), (10, 77), (10, 78), (10, 79), (10, 80), (10, 81), (10, 82), (10, 85), (10, 88), (10, 89), (10, 91), (10, 93), (10, 94), (10, 97), (50, 0), (51, 0), (52, 0), (55, 0), (57, 0)] L h L1 hl1) (f_5 : hl1.2.2 y 2 = some q_2) (f_10 : hl1.2.2 y 3 = some q_7) (f_15 : hl1.2.2 y 4 = some q_12) (f_20 : hl1.2.2 y 5 = some q_17) (f_25 : hl1.2.2 y 6 = some q_22) (f_30 : hl1.2.2 y 12 = some q_27) (f_35 : hl1.2.2 y 15 = some q_32) (f_225 : hl1.2.2 y 21 = some q_222) (f_230 : hl1.2.2 y 22 = some q_227) (f_235 : hl1.2.2 y 23 = some q_232) (f_240 : hl1.2.2 y 24 = some q_237) (f_245 : hl1.2.2 y 25 = some q_242) (f_250 : hl1.2.2 y 26 = some q_247)  (gy : hx_g L1 hl1 y 10) (gq_2 : hx_g L1 hl1 q_2 49) (gq_7 : hx_g L1 hl1 q_7 50) (gq_12 : hx_g L1 hl1 q_12 51) (gq_17 : hx_g L1 hl1 q_17 52) (gq_22 : hx_g L1 hl1 q_22 53) (gq_27 : hx_g L1 hl1 q_27 54) (gq_32 : hx_g L1 hl1 q_32 55) (gq_222 : hx_g L1 hl1 q_222 58) (gq_227 : hx_g L1 hl1 q_227 59) (gq_232 : hx_g L1 hl1 q_232 60) (gq_237 : hx_g L1 hl1 q_237 61) (gq_242 : hx_g L1 hl1 q_242 62) (gq_247 : hx_g L1 hl1 q_247 63) (hl : lv_has ls 2 [(0, .ref y)]) : W p l e ({ frames := 2, cells := 67, slots := 15340, locals := 42 }) s m ([.ref y] : List Value).toArray below meth c H locs 43 7751 (MQ below (va_Qv (fun (u : List Nat × hx_h) => hx_S P_tb [(10, 2), (10, 3), (10, 4), (10, 5), (10, 6), (10, 12), (10, 14), (10, 15), (10, 16), (10, 17), (10, 18), (10, 19), (10, 21), (10, 22), (10, 23), (10, 24), (10, 25), (10, 26), (10, 27), (10, 28), (10, 30), (10, 31), (10, 32), (10, 33), (10, 34), (10, 35), (10, 37), (10, 38), (10, 39), (10, 40), (10, 41), (10, 42), (10, 43), (10, 44), (10, 45), (10, 46), (10, 47), (10, 48), (10, 49), (10, 50), (10, 51), (10, 52), (10, 53), (10, 54), (10, 55), (10, 56), (10, 58), (10, 60), (10, 61), (10, 62), (10, 63), (10, 64), (10, 65), (10, 66), (10, 73), (10, 74), (10, 76), (10, 77), (10, 78), (10, 79), (10, 80), (10, 81), (10, 82), (10, 85), (10, 88), (10, 89), (10, 91), (10, 93), (10, 94), (10, 97), (50, 0), (51, 0), (52, 0), (55, 0), (57, 0)] L h u.1 u.2 ∧ (∃ q, u.2.2.2 y 2 = some q ∧ hx_g u.1 u.2 q 49) ∧ (∃ q, u.2.2.2 y 3 = some q ∧ hx_g u.1 u.2 q 50 ∧ (∀ j, j < 13 → u.2.2.1 q j = P_w1 j)) ∧ (∃ q, u.2.2.2 y 4 = some q ∧ hx_g u.1 u.2 q 51) ∧ (∃ q, u.2.2.2 y 5 = some q ∧ hx_g u.1 u.2 q 52) ∧ (∃ q, u.2.2.2 y 6 = some q ∧ hx_g u.1 u.2 q 53) ∧ (∃ q, u.2.2.2 y 12 = some q ∧ hx_g u.1 u.2 q 54) ∧ (∃ q, u.2.2.2 y 15 = some q ∧ hx_g u.1 u.2 q 55) ∧ (∃ q, u.2.2.2 y 21 = some q ∧ hx_g u.1 u.2 q 58) ∧ (∃ q, u.2.2.2 y 22 = some q ∧ hx_g u.1 u.2 q 59) ∧ (∃ q, u.2.2.2 y 23 = some q ∧ hx_g u.1 u.2 q 60) ∧ (∃ q, u.2.2.2 y 24 = some q ∧ hx_g u.1 u.2 q 61) ∧ (∃ q, u.2.2.2 y 25 = some q ∧ hx_g u.1 u.2 q 62) ∧ (∃ q, u.2.2.2 y 26 = some q ∧ hx_g u.1 u.2 q 63) ∧ (∃ q, u.2.2.2 y 82 = some q ∧ hx_g u.1 u.2 q 108) ∧ (∃ q, u.2.2.2 y 94 = some q ∧ hx_g u.1 u.2 q 114)) (hx_E P_tb (P_ty dA) (dC, dI) vwCl (hx_A L sz)) (hx_A L sz)) ([.ref y] : List Value).toArray s 67 15340 (hx_A L sz)) (F0 m 1396 ls []) := by
  refine lv_aload_n hx hb dX10_init_1396 rfl (lv_at hl 0 rfl) ?_
  refine lv_bipush (v := 100) hx hb dX10_init_1397 (by decide) ?_
  refine hk_newa hx hb hts hW 92 td_92 (atype := .int) rfl kw_186 (tys := P_ty dA) (t0 := 0) rfl (fun _ => Iff.rfl) rfl (i := (100 : Int32)) (by decide) (Nat.le_of_ble_eq_true rfl) (Nat.le_of_ble_eq_true rfl) (Nat.le_of_ble_eq_true rfl) dX10_init_1399 (fun q_392 H h_391 eh_391 hqq_392 hW hs gq_392 => ?_)
  have f_5 := (hs.o gy trivial rfl).2.trans f_5
  have f_10 := (hs.o gy trivial rfl).2.trans f_10
  have f_15 := (hs.o gy trivial rfl).2.trans f_15
  have f_20 := (hs.o gy trivial rfl).2.trans f_20
  have f_25 := (hs.o gy trivial rfl).2.trans f_25
  have f_30 := (hs.o gy trivial rfl).2.trans f_30
  have f_35 := (hs.o gy trivial rfl).2.trans f_35
  have f_225 := (hs.o gy trivial rfl).2.trans f_225
  have f_230 := (hs.o gy trivial rfl).2.trans f_230
  have f_235 := (hs.o gy trivial rfl).2.trans f_235
  have f_240 := (hs.o gy trivial rfl).2.trans f_240
  have f_245 := (hs.o gy trivial rfl).2.trans f_245
  have f_250 := (hs.o gy trivial rfl).2.trans f_250
  have hM := hM.tr (hs.mono (by decide))
  have gy := gy.S hs
  have gq_2 := gq_2.S hs
  have gq_7 := gq_7.S hs
  have gq_12 := gq_12.S hs
  have gq_17 := gq_17.S hs
  have gq_22 := gq_22.S hs
  have gq_27 := gq_27.S hs
  have gq_32 := gq_32.S hs
  have gq_222 := gq_222.S hs
  have gq_227 := gq_227.S hs
  have gq_232 := gq_232.S hs
  have gq_237 := gq_237.S hs
  have gq_242 := gq_242.S hs
  have gq_247 := gq_247.S hs
  have f_393 : (∀ j, h_391.2.1 q_392 j = 0) ∧ ∀ j, h_391.2.2 q_392 j = none := by rw [eh_391]; exact ⟨fun _ => hx_nw_i, fun _ => hx_nw_r⟩
  refine hk_putrF hx hb hts hC_10 hown hW gy td_10 58 (by decide) rfl kw_1201 ⟨rfl, rfl, rfl⟩ rfl hin rfl (x := (some q_392)) rfl rfl rfl dX10_init_1401 (fun H locs h_394 eh_394 hW hs => ?_)
  have f_5 := (hs.o gy trivial rfl).2.trans f_5
  have f_10 := (hs.o gy trivial rfl).2.trans f_10
  have f_15 := (hs.o gy trivial rfl).2.trans f_15
  have f_20 := (hs.o gy trivial rfl).2.trans f_20
  have f_25 := (hs.o gy trivial rfl).2.trans f_25
  have f_30 := (hs.o gy trivial rfl).2.trans f_30
  have f_35 := (hs.o gy trivial rfl).2.trans f_35
  have f_225 := (hs.o gy trivial rfl).2.trans f_225
  have f_230 := (hs.o gy trivial rfl).2.trans f_230
  have f_235 := (hs.o gy trivial rfl).2.trans f_235
  have f_240 := (hs.o gy trivial rfl).2.trans f_240
  have f_245 := (hs.o gy trivial rfl).2.trans f_245
  have f_250 := (hs.o gy trivial rfl).2.trans f_250
  have f_393 : _ ∧ _ := ⟨fun j => (hs.a gq_392 rfl j).1.trans (f_393.1 j), fun j => (hs.a gq_392 rfl j).2.trans (f_393.2 j)⟩
  have hM := hM.tr (hs.mono (by decide))
  have gy := gy.S hs
  have gq_2 := gq_2.S hs
  have gq_7 := gq_7.S hs
  have gq_12 := gq_12.S hs
  have gq_17 := gq_17.S hs
  have gq_22 := gq_22.S hs
  have gq_27 := gq_27.S hs
  have gq_32 := gq_32.S hs
  have gq_222 := gq_222.S hs
  have gq_227 := gq_227.S hs
  have gq_232 := gq_232.S hs
  have gq_237 := gq_237.S hs
  have gq_242 := gq_242.S hs
  have gq_247 := gq_247.S hs
  have gq_392 := gq_392.S hs
  have f_395 : h_394.2.2 y 58 = (some q_392) := by rw [eh_394]; exact hx_pr_at _ _ _ _
  refine lv_aload_n hx hb dX10_init_1404 rfl (lv_at hl 0 rfl) ?_
  refine lv_sipush (v := 600) hx hb dX10_init_1405 (by decide) ?_
  refine hk_newa hx hb hts hW 93 td_93 (atype := .int) rfl kw_186 (tys := P_ty dA) (t0 := 0) rfl (fun _ => Iff.rfl) rfl (i := (600 : Int32)) (by decide) (Nat.le_of_ble_eq_true rfl) (Nat.le_of_ble_eq_true rfl) (Nat.le_of_ble_eq_true rfl) dX10_init_1408 (fun q_397 H h_396 eh_396 hqq_397 hW hs gq_397 => ?_)
  have f_5 := (hs.o gy trivial rfl).2.trans f_5
  have f_10 := (hs.o gy trivial rfl).2.trans f_10
  have f_15 := (hs.o gy trivial rfl).2.trans f_15
  have f_20 := (hs.o gy trivial rfl).2.trans f_20
  have f_25 := (hs.o gy trivial rfl).2.trans f_25
  have f_30 := (hs.o gy trivial rfl).2.trans f_30
  have f_35 := (hs.o gy trivial rfl).2.trans f_35
  have f_225 := (hs.o gy trivial rfl).2.trans f_225
  have f_230 := (hs.o gy trivial rfl).2.trans f_230
  have f_235 := (hs.o gy trivial rfl).2.trans f_235
  have f_240 := (hs.o gy trivial rfl).2.trans f_240
  have f_245 := (hs.o gy trivial rfl).2.trans f_245
  have f_250 := (hs.o gy trivial rfl).2.trans f_250
  have hM := hM.tr (hs.mono (by decide))
  have gy := gy.S hs
  have gq_2 := gq_2.S hs
  have gq_7 := gq_7.S hs
  have gq_12 := gq_12.S hs
  have gq_17 := gq_17.S hs
  have gq_22 := gq_22.S hs
  have gq_27 := gq_27.S hs
  have gq_32 := gq_32.S hs
  have gq_222 := gq_222.S hs
  have gq_227 := gq_227.S hs
  have gq_232 := gq_232.S hs
  have gq_237 := gq_237.S hs
  have gq_242 := gq_242.S hs
  have gq_247 := gq_247.S hs
  have f_398 : (∀ j, h_396.2.1 q_397 j = 0) ∧ ∀ j, h_396.2.2 q_397 j = none := by rw [eh_396]; exact ⟨fun _ => hx_nw_i, fun _ => hx_nw_r⟩
  refine hk_putrF hx hb hts hC_10 hown hW gy td_10 60 (by decide) rfl kw_1203 ⟨rfl, rfl, rfl⟩ rfl hin rfl (x := (some q_397)) rfl rfl rfl dX10_init_1410 (fun H locs h_399 eh_399 hW hs => ?_)
  have f_5 := (hs.o gy trivial rfl).2.trans f_5
  have f_10 := (hs.o gy trivial rfl).2.trans f_10
  have f_15 := (hs.o gy trivial rfl).2.trans f_15
  have f_20 := (hs.o gy trivial rfl).2.trans f_20
  have f_25 := (hs.o gy trivial rfl).2.trans f_25
  have f_30 := (hs.o gy trivial rfl).2.trans f_30
  have f_35 := (hs.o gy trivial rfl).2.trans f_35
  have f_225 := (hs.o gy trivial rfl).2.trans f_225
  have f_230 := (hs.o gy trivial rfl).2.trans f_230
  have f_235 := (hs.o gy trivial rfl).2.trans f_235
  have f_240 := (hs.o gy trivial rfl).2.trans f_240
  have f_245 := (hs.o gy trivial rfl).2.trans f_245
  have f_250 := (hs.o gy trivial rfl).2.trans f_250
  have f_398 : _ ∧ _ := ⟨fun j => (hs.a gq_397 rfl j).1.trans (f_398.1 j), fun j => (hs.a gq_397 rfl j).2.trans (f_398.2 j)⟩
  have hM := hM.tr (hs.mono (by decide))
  have gy := gy.S hs
  have gq_2 := gq_2.S hs
  have gq_7 := gq_7.S hs
  have gq_12 := gq_12.S hs
  have gq_17 := gq_17.S hs
  have gq_22 := gq_22.S hs
  have gq_27 := gq_27.S hs
  have gq_32 := gq_32.S hs
  have gq_222 := gq_222.S hs
  have gq_227 := gq_227.S hs
  have gq_232 := gq_232.S hs
  have gq_237 := gq_237.S hs
  have gq_242 := gq_242.S hs
  have gq_247 := gq_247.S hs
  have gq_397 := gq_397.S hs
  have f_400 : h_399.2.2 y 60 = (some q_397) := by rw [eh_399]; exact hx_pr_at _ _ _ _
  refine lv_aload_n hx hb dX10_init_1413 rfl (lv_at hl 0 rfl) ?_
  refine lv_sipush (v := 600) hx hb dX10_init_1414 (by decide) ?_
  refine hk_newa hx hb hts hW 94 td_94 (atype := .int) rfl kw_186 (tys := P_ty dA) (t0 := 0) rfl (fun _ => Iff.rfl) rfl (i := (600 : Int32)) (by decide) (Nat.le_of_ble_eq_true rfl) (Nat.le_of_ble_eq_true rfl) (Nat.le_of_ble_eq_true rfl) dX10_init_1417 (fun q_402 H h_401 eh_401 hqq_402 hW hs gq_402 => ?_)
  have f_5 := (hs.o gy trivial rfl).2.trans f_5
  have f_10 := (hs.o gy trivial rfl).2.trans f_10
  have f_15 := (hs.o gy trivial rfl).2.trans f_15
  have f_20 := (hs.o gy trivial rfl).2.trans f_20
  have f_25 := (hs.o gy trivial rfl).2.trans f_25
  have f_30 := (hs.o gy trivial rfl).2.trans f_30
  have f_35 := (hs.o gy trivial rfl).2.trans f_35
  have f_225 := (hs.o gy trivial rfl).2.trans f_225
  have f_230 := (hs.o gy trivial rfl).2.trans f_230
  have f_235 := (hs.o gy trivial rfl).2.trans f_235
  have f_240 := (hs.o gy trivial rfl).2.trans f_240
  have f_245 := (hs.o gy trivial rfl).2.trans f_245
  have f_250 := (hs.o gy trivial rfl).2.trans f_250
  have hM := hM.tr (hs.mono (by decide))
  have gy := gy.S hs
  have gq_2 := gq_2.S hs
  have gq_7 := gq_7.S hs
  have gq_12 := gq_12.S hs
  have gq_17 := gq_17.S hs
  have gq_22 := gq_22.S hs
  have gq_27 := gq_27.S hs
  have gq_32 := gq_32.S hs
  have gq_222 := gq_222.S hs
  have gq_227 := gq_227.S hs
  have gq_232 := gq_232.S hs
  have gq_237 := gq_237.S hs
  have gq_242 := gq_242.S hs
  have gq_247 := gq_247.S hs
  have f_403 : (∀ j, h_401.2.1 q_402 j = 0) ∧ ∀ j, h_401.2.2 q_402 j = none := by rw [eh_401]; exact ⟨fun _ => hx_nw_i, fun _ => hx_nw_r⟩
  refine hk_putrF hx hb hts hC_10 hown hW gy td_10 61 (by decide) rfl kw_1204 ⟨rfl, rfl, rfl⟩ rfl hin rfl (x := (some q_402)) rfl rfl rfl dX10_init_1419 (fun H locs h_404 eh_404 hW hs => ?_)
  have f_5 := (hs.o gy trivial rfl).2.trans f_5
  have f_10 := (hs.o gy trivial rfl).2.trans f_10
  have f_15 := (hs.o gy trivial rfl).2.trans f_15
  have f_20 := (hs.o gy trivial rfl).2.trans f_20
  have f_25 := (hs.o gy trivial rfl).2.trans f_25
  have f_30 := (hs.o gy trivial rfl).2.trans f_30
  have f_35 := (hs.o gy trivial rfl).2.trans f_35
  have f_225 := (hs.o gy trivial rfl).2.trans f_225
  have f_230 := (hs.o gy trivial rfl).2.trans f_230
  have f_235 := (hs.o gy trivial rfl).2.trans f_235
  have f_240 := (hs.o gy trivial rfl).2.trans f_240
  have f_245 := (hs.o gy trivial rfl).2.trans f_245
  have f_250 := (hs.o gy trivial rfl).2.trans f_250
  have f_403 : _ ∧ _ := ⟨fun j => (hs.a gq_402 rfl j).1.trans (f_403.1 j), fun j => (hs.a gq_402 rfl j).2.trans (f_403.2 j)⟩
  have hM := hM.tr (hs.mono (by decide))
  have gy := gy.S hs
  have gq_2 := gq_2.S hs
  have gq_7 := gq_7.S hs
  have gq_12 := gq_12.S hs
  have gq_17 := gq_17.S hs
  have gq_22 := gq_22.S hs
  have gq_27 := gq_27.S hs
  have gq_32 := gq_32.S hs
  have gq_222 := gq_222.S hs
  have gq_227 := gq_227.S hs
  have gq_232 := gq_232.S hs
  have gq_237 := gq_237.S hs
  have gq_242 := gq_242.S hs
  have gq_247 := gq_247.S hs
  have gq_402 := gq_402.S hs
  have f_405 : h_404.2.2 y 61 = (some q_402) := by rw [eh_404]; exact hx_pr_at _ _ _ _
  refine W.widen (k := 46) (n := 9051) (Nat.le_of_ble_eq_true rfl) (Nat.le_of_ble_eq_true rfl) ?_
  exact sg_X10_init_19 l dC dI dA L h sz y q_2 q_7 q_12 q_17 q_22 q_27 q_32 q_222 q_227 q_232 q_237 q_242 q_247 hx hb hml hr hlk hts hown hin hsz (((L1 ++ [q_392]) ++ [q_397]) ++ [q_402]) h_404 _ _ ls hW hM f_5 f_10 f_15 f_20 f_25 f_30 f_35 f_225 f_230 f_235 f_240 f_245 f_250  gy gq_2 gq_7 gq_12 gq_17 gq_22 gq_27 gq_32 gq_222 gq_227 gq_232 gq_237 gq_242 gq_247 hl

set_option maxHeartbeats 4000000 in
set_option maxRecDepth 100000 in
theorem sg_X10_init_17 (l : Launch) (dC : Nat → ClassId) (dI : Nat → Nat → Nat) (dA : Nat → ClassId) (L : List Nat) (h : hx_h) (sz : Nat) (y : Nat) (q_2 q_7 q_12 q_17 q_22 q_27 q_32 q_222 q_227 q_232 q_237 q_242 q_247 : Nat) {p : Program} {e : Env} {s : State} {m : MethodId} {below : List Frame} {meth : Method} {c : Code} (hx : p.tables.exec = Jvm.exec) (hb : c.code = cX10_init) (hml : c.maxLocals = 2) (hr : meth.sig.returnType = none) (hlk : meth.locks = false) (hts : ∀ w ∈ hx_all, w.before ([.ref y] : List Value).toArray s = true) (hown : s.vm.findClass "SmallCourtModel" = some m.cls) (hin : meth.name = "<init>") (hsz : s.heap.size = sz) (L1 : List Nat) (hl1 : hx_h) (H : Heap) (locs : List Loc) (ls : Array Slot) (hW : hx_W P_tb (P_ty dA) (dC, dI) vwCl (hx_A L sz) s.heap L1 hl1 s H locs) (hM : hx_S P_tb [(10, 2), (10, 3), (10, 4), (10, 5), (10, 6), (10, 12), (10, 14), (10, 15), (10, 16), (10, 17), (10, 18), (10, 19), (10, 21), (10, 22), (10, 23), (10, 24), (10, 25), (10, 26), (10, 27), (10, 28), (10, 30), (10, 31), (10, 32), (10, 33), (10, 34), (10, 35), (10, 37), (10, 38), (10, 39), (10, 40), (10, 41), (10, 42), (10, 43), (10, 44), (10, 45), (10, 46), (10, 47), (10, 48), (10, 49), (10, 50), (10, 51), (10, 52), (10, 53), (10, 54), (10, 55), (10, 56), (10, 58), (10, 60), (10, 61), (10, 62), (10, 63), (10, 64), (10, 65), (10, 66), (10, 73), (10, 74), (10, 76), (10, 77), (10, 78), (10, 79), (10, 80), (10, 81), (10, 82), (10, 85), (10, 88), (10, 89), (10, 91), (10, 93), (10, 94), (10, 97), (50, 0), (51, 0), (52, 0), (55, 0), (57, 0)] L h L1 hl1) (f_5 : hl1.2.2 y 2 = some q_2) (f_10 : hl1.2.2 y 3 = some q_7) (f_15 : hl1.2.2 y 4 = some q_12) (f_20 : hl1.2.2 y 5 = some q_17) (f_25 : hl1.2.2 y 6 = some q_22) (f_30 : hl1.2.2 y 12 = some q_27) (f_35 : hl1.2.2 y 15 = some q_32) (f_225 : hl1.2.2 y 21 = some q_222) (f_230 : hl1.2.2 y 22 = some q_227) (f_235 : hl1.2.2 y 23 = some q_232) (f_240 : hl1.2.2 y 24 = some q_237) (f_245 : hl1.2.2 y 25 = some q_242) (f_250 : hl1.2.2 y 26 = some q_247)  (gy : hx_g L1 hl1 y 10) (gq_2 : hx_g L1 hl1 q_2 49) (gq_7 : hx_g L1 hl1 q_7 50) (gq_12 : hx_g L1 hl1 q_12 51) (gq_17 : hx_g L1 hl1 q_17 52) (gq_22 : hx_g L1 hl1 q_22 53) (gq_27 : hx_g L1 hl1 q_27 54) (gq_32 : hx_g L1 hl1 q_32 55) (gq_222 : hx_g L1 hl1 q_222 58) (gq_227 : hx_g L1 hl1 q_227 59) (gq_232 : hx_g L1 hl1 q_232 60) (gq_237 : hx_g L1 hl1 q_237 61) (gq_242 : hx_g L1 hl1 q_242 62) (gq_247 : hx_g L1 hl1 q_247 63) (hl : lv_has ls 2 [(0, .ref y)]) : W p l e ({ frames := 2, cells := 67, slots := 15340, locals := 42 }) s m ([.ref y] : List Value).toArray below meth c H locs 40 7451 (MQ below (va_Qv (fun (u : List Nat × hx_h) => hx_S P_tb [(10, 2), (10, 3), (10, 4), (10, 5), (10, 6), (10, 12), (10, 14), (10, 15), (10, 16), (10, 17), (10, 18), (10, 19), (10, 21), (10, 22), (10, 23), (10, 24), (10, 25), (10, 26), (10, 27), (10, 28), (10, 30), (10, 31), (10, 32), (10, 33), (10, 34), (10, 35), (10, 37), (10, 38), (10, 39), (10, 40), (10, 41), (10, 42), (10, 43), (10, 44), (10, 45), (10, 46), (10, 47), (10, 48), (10, 49), (10, 50), (10, 51), (10, 52), (10, 53), (10, 54), (10, 55), (10, 56), (10, 58), (10, 60), (10, 61), (10, 62), (10, 63), (10, 64), (10, 65), (10, 66), (10, 73), (10, 74), (10, 76), (10, 77), (10, 78), (10, 79), (10, 80), (10, 81), (10, 82), (10, 85), (10, 88), (10, 89), (10, 91), (10, 93), (10, 94), (10, 97), (50, 0), (51, 0), (52, 0), (55, 0), (57, 0)] L h u.1 u.2 ∧ (∃ q, u.2.2.2 y 2 = some q ∧ hx_g u.1 u.2 q 49) ∧ (∃ q, u.2.2.2 y 3 = some q ∧ hx_g u.1 u.2 q 50 ∧ (∀ j, j < 13 → u.2.2.1 q j = P_w1 j)) ∧ (∃ q, u.2.2.2 y 4 = some q ∧ hx_g u.1 u.2 q 51) ∧ (∃ q, u.2.2.2 y 5 = some q ∧ hx_g u.1 u.2 q 52) ∧ (∃ q, u.2.2.2 y 6 = some q ∧ hx_g u.1 u.2 q 53) ∧ (∃ q, u.2.2.2 y 12 = some q ∧ hx_g u.1 u.2 q 54) ∧ (∃ q, u.2.2.2 y 15 = some q ∧ hx_g u.1 u.2 q 55) ∧ (∃ q, u.2.2.2 y 21 = some q ∧ hx_g u.1 u.2 q 58) ∧ (∃ q, u.2.2.2 y 22 = some q ∧ hx_g u.1 u.2 q 59) ∧ (∃ q, u.2.2.2 y 23 = some q ∧ hx_g u.1 u.2 q 60) ∧ (∃ q, u.2.2.2 y 24 = some q ∧ hx_g u.1 u.2 q 61) ∧ (∃ q, u.2.2.2 y 25 = some q ∧ hx_g u.1 u.2 q 62) ∧ (∃ q, u.2.2.2 y 26 = some q ∧ hx_g u.1 u.2 q 63) ∧ (∃ q, u.2.2.2 y 82 = some q ∧ hx_g u.1 u.2 q 108) ∧ (∃ q, u.2.2.2 y 94 = some q ∧ hx_g u.1 u.2 q 114)) (hx_E P_tb (P_ty dA) (dC, dI) vwCl (hx_A L sz)) (hx_A L sz)) ([.ref y] : List Value).toArray s 67 15340 (hx_A L sz)) (F0 m 1372 ls []) := by
  refine lv_aload_n hx hb dX10_init_1372 rfl (lv_at hl 0 rfl) ?_
  refine lv_bipush (v := 100) hx hb dX10_init_1373 (by decide) ?_
  refine hk_newa hx hb hts hW 89 td_89 (atype := .int) rfl kw_186 (tys := P_ty dA) (t0 := 0) rfl (fun _ => Iff.rfl) rfl (i := (100 : Int32)) (by decide) (Nat.le_of_ble_eq_true rfl) (Nat.le_of_ble_eq_true rfl) (Nat.le_of_ble_eq_true rfl) dX10_init_1375 (fun q_377 H h_376 eh_376 hqq_377 hW hs gq_377 => ?_)
  have f_5 := (hs.o gy trivial rfl).2.trans f_5
  have f_10 := (hs.o gy trivial rfl).2.trans f_10
  have f_15 := (hs.o gy trivial rfl).2.trans f_15
  have f_20 := (hs.o gy trivial rfl).2.trans f_20
  have f_25 := (hs.o gy trivial rfl).2.trans f_25
  have f_30 := (hs.o gy trivial rfl).2.trans f_30
  have f_35 := (hs.o gy trivial rfl).2.trans f_35
  have f_225 := (hs.o gy trivial rfl).2.trans f_225
  have f_230 := (hs.o gy trivial rfl).2.trans f_230
  have f_235 := (hs.o gy trivial rfl).2.trans f_235
  have f_240 := (hs.o gy trivial rfl).2.trans f_240
  have f_245 := (hs.o gy trivial rfl).2.trans f_245
  have f_250 := (hs.o gy trivial rfl).2.trans f_250
  have hM := hM.tr (hs.mono (by decide))
  have gy := gy.S hs
  have gq_2 := gq_2.S hs
  have gq_7 := gq_7.S hs
  have gq_12 := gq_12.S hs
  have gq_17 := gq_17.S hs
  have gq_22 := gq_22.S hs
  have gq_27 := gq_27.S hs
  have gq_32 := gq_32.S hs
  have gq_222 := gq_222.S hs
  have gq_227 := gq_227.S hs
  have gq_232 := gq_232.S hs
  have gq_237 := gq_237.S hs
  have gq_242 := gq_242.S hs
  have gq_247 := gq_247.S hs
  have f_378 : (∀ j, h_376.2.1 q_377 j = 0) ∧ ∀ j, h_376.2.2 q_377 j = none := by rw [eh_376]; exact ⟨fun _ => hx_nw_i, fun _ => hx_nw_r⟩
  refine hk_putrF hx hb hts hC_10 hown hW gy td_10 54 (by decide) rfl kw_1197 ⟨rfl, rfl, rfl⟩ rfl hin rfl (x := (some q_377)) rfl rfl rfl dX10_init_1377 (fun H locs h_379 eh_379 hW hs => ?_)
  have f_5 := (hs.o gy trivial rfl).2.trans f_5
  have f_10 := (hs.o gy trivial rfl).2.trans f_10
  have f_15 := (hs.o gy trivial rfl).2.trans f_15
  have f_20 := (hs.o gy trivial rfl).2.trans f_20
  have f_25 := (hs.o gy trivial rfl).2.trans f_25
  have f_30 := (hs.o gy trivial rfl).2.trans f_30
  have f_35 := (hs.o gy trivial rfl).2.trans f_35
  have f_225 := (hs.o gy trivial rfl).2.trans f_225
  have f_230 := (hs.o gy trivial rfl).2.trans f_230
  have f_235 := (hs.o gy trivial rfl).2.trans f_235
  have f_240 := (hs.o gy trivial rfl).2.trans f_240
  have f_245 := (hs.o gy trivial rfl).2.trans f_245
  have f_250 := (hs.o gy trivial rfl).2.trans f_250
  have f_378 : _ ∧ _ := ⟨fun j => (hs.a gq_377 rfl j).1.trans (f_378.1 j), fun j => (hs.a gq_377 rfl j).2.trans (f_378.2 j)⟩
  have hM := hM.tr (hs.mono (by decide))
  have gy := gy.S hs
  have gq_2 := gq_2.S hs
  have gq_7 := gq_7.S hs
  have gq_12 := gq_12.S hs
  have gq_17 := gq_17.S hs
  have gq_22 := gq_22.S hs
  have gq_27 := gq_27.S hs
  have gq_32 := gq_32.S hs
  have gq_222 := gq_222.S hs
  have gq_227 := gq_227.S hs
  have gq_232 := gq_232.S hs
  have gq_237 := gq_237.S hs
  have gq_242 := gq_242.S hs
  have gq_247 := gq_247.S hs
  have gq_377 := gq_377.S hs
  have f_380 : h_379.2.2 y 54 = (some q_377) := by rw [eh_379]; exact hx_pr_at _ _ _ _
  refine lv_aload_n hx hb dX10_init_1380 rfl (lv_at hl 0 rfl) ?_
  refine lv_bipush (v := 100) hx hb dX10_init_1381 (by decide) ?_
  refine hk_newa hx hb hts hW 90 td_90 (atype := .int) rfl kw_186 (tys := P_ty dA) (t0 := 0) rfl (fun _ => Iff.rfl) rfl (i := (100 : Int32)) (by decide) (Nat.le_of_ble_eq_true rfl) (Nat.le_of_ble_eq_true rfl) (Nat.le_of_ble_eq_true rfl) dX10_init_1383 (fun q_382 H h_381 eh_381 hqq_382 hW hs gq_382 => ?_)
  have f_5 := (hs.o gy trivial rfl).2.trans f_5
  have f_10 := (hs.o gy trivial rfl).2.trans f_10
  have f_15 := (hs.o gy trivial rfl).2.trans f_15
  have f_20 := (hs.o gy trivial rfl).2.trans f_20
  have f_25 := (hs.o gy trivial rfl).2.trans f_25
  have f_30 := (hs.o gy trivial rfl).2.trans f_30
  have f_35 := (hs.o gy trivial rfl).2.trans f_35
  have f_225 := (hs.o gy trivial rfl).2.trans f_225
  have f_230 := (hs.o gy trivial rfl).2.trans f_230
  have f_235 := (hs.o gy trivial rfl).2.trans f_235
  have f_240 := (hs.o gy trivial rfl).2.trans f_240
  have f_245 := (hs.o gy trivial rfl).2.trans f_245
  have f_250 := (hs.o gy trivial rfl).2.trans f_250
  have hM := hM.tr (hs.mono (by decide))
  have gy := gy.S hs
  have gq_2 := gq_2.S hs
  have gq_7 := gq_7.S hs
  have gq_12 := gq_12.S hs
  have gq_17 := gq_17.S hs
  have gq_22 := gq_22.S hs
  have gq_27 := gq_27.S hs
  have gq_32 := gq_32.S hs
  have gq_222 := gq_222.S hs
  have gq_227 := gq_227.S hs
  have gq_232 := gq_232.S hs
  have gq_237 := gq_237.S hs
  have gq_242 := gq_242.S hs
  have gq_247 := gq_247.S hs
  have f_383 : (∀ j, h_381.2.1 q_382 j = 0) ∧ ∀ j, h_381.2.2 q_382 j = none := by rw [eh_381]; exact ⟨fun _ => hx_nw_i, fun _ => hx_nw_r⟩
  refine hk_putrF hx hb hts hC_10 hown hW gy td_10 55 (by decide) rfl kw_1198 ⟨rfl, rfl, rfl⟩ rfl hin rfl (x := (some q_382)) rfl rfl rfl dX10_init_1385 (fun H locs h_384 eh_384 hW hs => ?_)
  have f_5 := (hs.o gy trivial rfl).2.trans f_5
  have f_10 := (hs.o gy trivial rfl).2.trans f_10
  have f_15 := (hs.o gy trivial rfl).2.trans f_15
  have f_20 := (hs.o gy trivial rfl).2.trans f_20
  have f_25 := (hs.o gy trivial rfl).2.trans f_25
  have f_30 := (hs.o gy trivial rfl).2.trans f_30
  have f_35 := (hs.o gy trivial rfl).2.trans f_35
  have f_225 := (hs.o gy trivial rfl).2.trans f_225
  have f_230 := (hs.o gy trivial rfl).2.trans f_230
  have f_235 := (hs.o gy trivial rfl).2.trans f_235
  have f_240 := (hs.o gy trivial rfl).2.trans f_240
  have f_245 := (hs.o gy trivial rfl).2.trans f_245
  have f_250 := (hs.o gy trivial rfl).2.trans f_250
  have f_383 : _ ∧ _ := ⟨fun j => (hs.a gq_382 rfl j).1.trans (f_383.1 j), fun j => (hs.a gq_382 rfl j).2.trans (f_383.2 j)⟩
  have hM := hM.tr (hs.mono (by decide))
  have gy := gy.S hs
  have gq_2 := gq_2.S hs
  have gq_7 := gq_7.S hs
  have gq_12 := gq_12.S hs
  have gq_17 := gq_17.S hs
  have gq_22 := gq_22.S hs
  have gq_27 := gq_27.S hs
  have gq_32 := gq_32.S hs
  have gq_222 := gq_222.S hs
  have gq_227 := gq_227.S hs
  have gq_232 := gq_232.S hs
  have gq_237 := gq_237.S hs
  have gq_242 := gq_242.S hs
  have gq_247 := gq_247.S hs
  have gq_382 := gq_382.S hs
  have f_385 : h_384.2.2 y 55 = (some q_382) := by rw [eh_384]; exact hx_pr_at _ _ _ _
  refine lv_aload_n hx hb dX10_init_1388 rfl (lv_at hl 0 rfl) ?_
  refine lv_bipush (v := 100) hx hb dX10_init_1389 (by decide) ?_
  refine hk_newa hx hb hts hW 91 td_91 (atype := .int) rfl kw_186 (tys := P_ty dA) (t0 := 0) rfl (fun _ => Iff.rfl) rfl (i := (100 : Int32)) (by decide) (Nat.le_of_ble_eq_true rfl) (Nat.le_of_ble_eq_true rfl) (Nat.le_of_ble_eq_true rfl) dX10_init_1391 (fun q_387 H h_386 eh_386 hqq_387 hW hs gq_387 => ?_)
  have f_5 := (hs.o gy trivial rfl).2.trans f_5
  have f_10 := (hs.o gy trivial rfl).2.trans f_10
  have f_15 := (hs.o gy trivial rfl).2.trans f_15
  have f_20 := (hs.o gy trivial rfl).2.trans f_20
  have f_25 := (hs.o gy trivial rfl).2.trans f_25
  have f_30 := (hs.o gy trivial rfl).2.trans f_30
  have f_35 := (hs.o gy trivial rfl).2.trans f_35
  have f_225 := (hs.o gy trivial rfl).2.trans f_225
  have f_230 := (hs.o gy trivial rfl).2.trans f_230
  have f_235 := (hs.o gy trivial rfl).2.trans f_235
  have f_240 := (hs.o gy trivial rfl).2.trans f_240
  have f_245 := (hs.o gy trivial rfl).2.trans f_245
  have f_250 := (hs.o gy trivial rfl).2.trans f_250
  have hM := hM.tr (hs.mono (by decide))
  have gy := gy.S hs
  have gq_2 := gq_2.S hs
  have gq_7 := gq_7.S hs
  have gq_12 := gq_12.S hs
  have gq_17 := gq_17.S hs
  have gq_22 := gq_22.S hs
  have gq_27 := gq_27.S hs
  have gq_32 := gq_32.S hs
  have gq_222 := gq_222.S hs
  have gq_227 := gq_227.S hs
  have gq_232 := gq_232.S hs
  have gq_237 := gq_237.S hs
  have gq_242 := gq_242.S hs
  have gq_247 := gq_247.S hs
  have f_388 : (∀ j, h_386.2.1 q_387 j = 0) ∧ ∀ j, h_386.2.2 q_387 j = none := by rw [eh_386]; exact ⟨fun _ => hx_nw_i, fun _ => hx_nw_r⟩
  refine hk_putrF hx hb hts hC_10 hown hW gy td_10 56 (by decide) rfl kw_1199 ⟨rfl, rfl, rfl⟩ rfl hin rfl (x := (some q_387)) rfl rfl rfl dX10_init_1393 (fun H locs h_389 eh_389 hW hs => ?_)
  have f_5 := (hs.o gy trivial rfl).2.trans f_5
  have f_10 := (hs.o gy trivial rfl).2.trans f_10
  have f_15 := (hs.o gy trivial rfl).2.trans f_15
  have f_20 := (hs.o gy trivial rfl).2.trans f_20
  have f_25 := (hs.o gy trivial rfl).2.trans f_25
  have f_30 := (hs.o gy trivial rfl).2.trans f_30
  have f_35 := (hs.o gy trivial rfl).2.trans f_35
  have f_225 := (hs.o gy trivial rfl).2.trans f_225
  have f_230 := (hs.o gy trivial rfl).2.trans f_230
  have f_235 := (hs.o gy trivial rfl).2.trans f_235
  have f_240 := (hs.o gy trivial rfl).2.trans f_240
  have f_245 := (hs.o gy trivial rfl).2.trans f_245
  have f_250 := (hs.o gy trivial rfl).2.trans f_250
  have f_388 : _ ∧ _ := ⟨fun j => (hs.a gq_387 rfl j).1.trans (f_388.1 j), fun j => (hs.a gq_387 rfl j).2.trans (f_388.2 j)⟩
  have hM := hM.tr (hs.mono (by decide))
  have gy := gy.S hs
  have gq_2 := gq_2.S hs
  have gq_7 := gq_7.S hs
  have gq_12 := gq_12.S hs
  have gq_17 := gq_17.S hs
  have gq_22 := gq_22.S hs
  have gq_27 := gq_27.S hs
  have gq_32 := gq_32.S hs
  have gq_222 := gq_222.S hs
  have gq_227 := gq_227.S hs
  have gq_232 := gq_232.S hs
  have gq_237 := gq_237.S hs
  have gq_242 := gq_242.S hs
  have gq_247 := gq_247.S hs
  have gq_387 := gq_387.S hs
  have f_390 : h_389.2.2 y 56 = (some q_387) := by rw [eh_389]; exact hx_pr_at _ _ _ _
  refine W.widen (k := 43) (n := 7751) (Nat.le_of_ble_eq_true rfl) (Nat.le_of_ble_eq_true rfl) ?_
  exact sg_X10_init_18 l dC dI dA L h sz y q_2 q_7 q_12 q_17 q_22 q_27 q_32 q_222 q_227 q_232 q_237 q_242 q_247 hx hb hml hr hlk hts hown hin hsz (((L1 ++ [q_377]) ++ [q_382]) ++ [q_387]) h_389 _ _ ls hW hM f_5 f_10 f_15 f_20 f_25 f_30 f_35 f_225 f_230 f_235 f_240 f_245 f_250  gy gq_2 gq_7 gq_12 gq_17 gq_22 gq_27 gq_32 gq_222 gq_227 gq_232 gq_237 gq_242 gq_247 hl

set_option maxHeartbeats 4000000 in
set_option maxRecDepth 100000 in
theorem sg_X10_init_16 (l : Launch) (dC : Nat → ClassId) (dI : Nat → Nat → Nat) (dA : Nat → ClassId) (L : List Nat) (h : hx_h) (sz : Nat) (y : Nat) (q_2 q_7 q_12 q_17 q_22 q_27 q_32 q_222 q_227 q_232 q_237 q_242 q_247 : Nat) {p : Program} {e : Env} {s : State} {m : MethodId} {below : List Frame} {meth : Method} {c : Code} (hx : p.tables.exec = Jvm.exec) (hb : c.code = cX10_init) (hml : c.maxLocals = 2) (hr : meth.sig.returnType = none) (hlk : meth.locks = false) (hts : ∀ w ∈ hx_all, w.before ([.ref y] : List Value).toArray s = true) (hown : s.vm.findClass "SmallCourtModel" = some m.cls) (hin : meth.name = "<init>") (hsz : s.heap.size = sz) (L1 : List Nat) (hl1 : hx_h) (H : Heap) (locs : List Loc) (ls : Array Slot) (hW : hx_W P_tb (P_ty dA) (dC, dI) vwCl (hx_A L sz) s.heap L1 hl1 s H locs) (hM : hx_S P_tb [(10, 2), (10, 3), (10, 4), (10, 5), (10, 6), (10, 12), (10, 14), (10, 15), (10, 16), (10, 17), (10, 18), (10, 19), (10, 21), (10, 22), (10, 23), (10, 24), (10, 25), (10, 26), (10, 27), (10, 28), (10, 30), (10, 31), (10, 32), (10, 33), (10, 34), (10, 35), (10, 37), (10, 38), (10, 39), (10, 40), (10, 41), (10, 42), (10, 43), (10, 44), (10, 45), (10, 46), (10, 47), (10, 48), (10, 49), (10, 50), (10, 51), (10, 52), (10, 53), (10, 54), (10, 55), (10, 56), (10, 58), (10, 60), (10, 61), (10, 62), (10, 63), (10, 64), (10, 65), (10, 66), (10, 73), (10, 74), (10, 76), (10, 77), (10, 78), (10, 79), (10, 80), (10, 81), (10, 82), (10, 85), (10, 88), (10, 89), (10, 91), (10, 93), (10, 94), (10, 97), (50, 0), (51, 0), (52, 0), (55, 0), (57, 0)] L h L1 hl1) (f_5 : hl1.2.2 y 2 = some q_2) (f_10 : hl1.2.2 y 3 = some q_7) (f_15 : hl1.2.2 y 4 = some q_12) (f_20 : hl1.2.2 y 5 = some q_17) (f_25 : hl1.2.2 y 6 = some q_22) (f_30 : hl1.2.2 y 12 = some q_27) (f_35 : hl1.2.2 y 15 = some q_32) (f_225 : hl1.2.2 y 21 = some q_222) (f_230 : hl1.2.2 y 22 = some q_227) (f_235 : hl1.2.2 y 23 = some q_232) (f_240 : hl1.2.2 y 24 = some q_237) (f_245 : hl1.2.2 y 25 = some q_242) (f_250 : hl1.2.2 y 26 = some q_247)  (gy : hx_g L1 hl1 y 10) (gq_2 : hx_g L1 hl1 q_2 49) (gq_7 : hx_g L1 hl1 q_7 50) (gq_12 : hx_g L1 hl1 q_12 51) (gq_17 : hx_g L1 hl1 q_17 52) (gq_22 : hx_g L1 hl1 q_22 53) (gq_27 : hx_g L1 hl1 q_27 54) (gq_32 : hx_g L1 hl1 q_32 55) (gq_222 : hx_g L1 hl1 q_222 58) (gq_227 : hx_g L1 hl1 q_227 59) (gq_232 : hx_g L1 hl1 q_232 60) (gq_237 : hx_g L1 hl1 q_237 61) (gq_242 : hx_g L1 hl1 q_242 62) (gq_247 : hx_g L1 hl1 q_247 63) (hl : lv_has ls 2 [(0, .ref y)]) : W p l e ({ frames := 2, cells := 67, slots := 15340, locals := 42 }) s m ([.ref y] : List Value).toArray below meth c H locs 37 6251 (MQ below (va_Qv (fun (u : List Nat × hx_h) => hx_S P_tb [(10, 2), (10, 3), (10, 4), (10, 5), (10, 6), (10, 12), (10, 14), (10, 15), (10, 16), (10, 17), (10, 18), (10, 19), (10, 21), (10, 22), (10, 23), (10, 24), (10, 25), (10, 26), (10, 27), (10, 28), (10, 30), (10, 31), (10, 32), (10, 33), (10, 34), (10, 35), (10, 37), (10, 38), (10, 39), (10, 40), (10, 41), (10, 42), (10, 43), (10, 44), (10, 45), (10, 46), (10, 47), (10, 48), (10, 49), (10, 50), (10, 51), (10, 52), (10, 53), (10, 54), (10, 55), (10, 56), (10, 58), (10, 60), (10, 61), (10, 62), (10, 63), (10, 64), (10, 65), (10, 66), (10, 73), (10, 74), (10, 76), (10, 77), (10, 78), (10, 79), (10, 80), (10, 81), (10, 82), (10, 85), (10, 88), (10, 89), (10, 91), (10, 93), (10, 94), (10, 97), (50, 0), (51, 0), (52, 0), (55, 0), (57, 0)] L h u.1 u.2 ∧ (∃ q, u.2.2.2 y 2 = some q ∧ hx_g u.1 u.2 q 49) ∧ (∃ q, u.2.2.2 y 3 = some q ∧ hx_g u.1 u.2 q 50 ∧ (∀ j, j < 13 → u.2.2.1 q j = P_w1 j)) ∧ (∃ q, u.2.2.2 y 4 = some q ∧ hx_g u.1 u.2 q 51) ∧ (∃ q, u.2.2.2 y 5 = some q ∧ hx_g u.1 u.2 q 52) ∧ (∃ q, u.2.2.2 y 6 = some q ∧ hx_g u.1 u.2 q 53) ∧ (∃ q, u.2.2.2 y 12 = some q ∧ hx_g u.1 u.2 q 54) ∧ (∃ q, u.2.2.2 y 15 = some q ∧ hx_g u.1 u.2 q 55) ∧ (∃ q, u.2.2.2 y 21 = some q ∧ hx_g u.1 u.2 q 58) ∧ (∃ q, u.2.2.2 y 22 = some q ∧ hx_g u.1 u.2 q 59) ∧ (∃ q, u.2.2.2 y 23 = some q ∧ hx_g u.1 u.2 q 60) ∧ (∃ q, u.2.2.2 y 24 = some q ∧ hx_g u.1 u.2 q 61) ∧ (∃ q, u.2.2.2 y 25 = some q ∧ hx_g u.1 u.2 q 62) ∧ (∃ q, u.2.2.2 y 26 = some q ∧ hx_g u.1 u.2 q 63) ∧ (∃ q, u.2.2.2 y 82 = some q ∧ hx_g u.1 u.2 q 108) ∧ (∃ q, u.2.2.2 y 94 = some q ∧ hx_g u.1 u.2 q 114)) (hx_E P_tb (P_ty dA) (dC, dI) vwCl (hx_A L sz)) (hx_A L sz)) ([.ref y] : List Value).toArray s 67 15340 (hx_A L sz)) (F0 m 1346 ls []) := by
  refine lv_aload_n hx hb dX10_init_1346 rfl (lv_at hl 0 rfl) ?_
  refine lv_bipush (v := 100) hx hb dX10_init_1347 (by decide) ?_
  refine hk_newa hx hb hts hW 86 td_86 (atype := .int) rfl kw_186 (tys := P_ty dA) (t0 := 0) rfl (fun _ => Iff.rfl) rfl (i := (100 : Int32)) (by decide) (Nat.le_of_ble_eq_true rfl) (Nat.le_of_ble_eq_true rfl) (Nat.le_of_ble_eq_true rfl) dX10_init_1349 (fun q_362 H h_361 eh_361 hqq_362 hW hs gq_362 => ?_)
  have f_5 := (hs.o gy trivial rfl).2.trans f_5
  have f_10 := (hs.o gy trivial rfl).2.trans f_10
  have f_15 := (hs.o gy trivial rfl).2.trans f_15
  have f_20 := (hs.o gy trivial rfl).2.trans f_20
  have f_25 := (hs.o gy trivial rfl).2.trans f_25
  have f_30 := (hs.o gy trivial rfl).2.trans f_30
  have f_35 := (hs.o gy trivial rfl).2.trans f_35
  have f_225 := (hs.o gy trivial rfl).2.trans f_225
  have f_230 := (hs.o gy trivial rfl).2.trans f_230
  have f_235 := (hs.o gy trivial rfl).2.trans f_235
  have f_240 := (hs.o gy trivial rfl).2.trans f_240
  have f_245 := (hs.o gy trivial rfl).2.trans f_245
  have f_250 := (hs.o gy trivial rfl).2.trans f_250
  have hM := hM.tr (hs.mono (by decide))
  have gy := gy.S hs
  have gq_2 := gq_2.S hs
  have gq_7 := gq_7.S hs
  have gq_12 := gq_12.S hs
  have gq_17 := gq_17.S hs
  have gq_22 := gq_22.S hs
  have gq_27 := gq_27.S hs
  have gq_32 := gq_32.S hs
  have gq_222 := gq_222.S hs
  have gq_227 := gq_227.S hs
  have gq_232 := gq_232.S hs
  have gq_237 := gq_237.S hs
  have gq_242 := gq_242.S hs
  have gq_247 := gq_247.S hs
  have f_363 : (∀ j, h_361.2.1 q_362 j = 0) ∧ ∀ j, h_361.2.2 q_362 j = none := by rw [eh_361]; exact ⟨fun _ => hx_nw_i, fun _ => hx_nw_r⟩
  refine hk_putrF hx hb hts hC_10 hown hW gy td_10 51 (by decide) rfl kw_1194 ⟨rfl, rfl, rfl⟩ rfl hin rfl (x := (some q_362)) rfl rfl rfl dX10_init_1351 (fun H locs h_364 eh_364 hW hs => ?_)
  have f_5 := (hs.o gy trivial rfl).2.trans f_5
  have f_10 := (hs.o gy trivial rfl).2.trans f_10
  have f_15 := (hs.o gy trivial rfl).2.trans f_15
  have f_20 := (hs.o gy trivial rfl).2.trans f_20
  have f_25 := (hs.o gy trivial rfl).2.trans f_25
  have f_30 := (hs.o gy trivial rfl).2.trans f_30
  have f_35 := (hs.o gy trivial rfl).2.trans f_35
  have f_225 := (hs.o gy trivial rfl).2.trans f_225
  have f_230 := (hs.o gy trivial rfl).2.trans f_230
  have f_235 := (hs.o gy trivial rfl).2.trans f_235
  have f_240 := (hs.o gy trivial rfl).2.trans f_240
  have f_245 := (hs.o gy trivial rfl).2.trans f_245
  have f_250 := (hs.o gy trivial rfl).2.trans f_250
  have f_363 : _ ∧ _ := ⟨fun j => (hs.a gq_362 rfl j).1.trans (f_363.1 j), fun j => (hs.a gq_362 rfl j).2.trans (f_363.2 j)⟩
  have hM := hM.tr (hs.mono (by decide))
  have gy := gy.S hs
  have gq_2 := gq_2.S hs
  have gq_7 := gq_7.S hs
  have gq_12 := gq_12.S hs
  have gq_17 := gq_17.S hs
  have gq_22 := gq_22.S hs
  have gq_27 := gq_27.S hs
  have gq_32 := gq_32.S hs
  have gq_222 := gq_222.S hs
  have gq_227 := gq_227.S hs
  have gq_232 := gq_232.S hs
  have gq_237 := gq_237.S hs
  have gq_242 := gq_242.S hs
  have gq_247 := gq_247.S hs
  have gq_362 := gq_362.S hs
  have f_365 : h_364.2.2 y 51 = (some q_362) := by rw [eh_364]; exact hx_pr_at _ _ _ _
  refine lv_aload_n hx hb dX10_init_1354 rfl (lv_at hl 0 rfl) ?_
  refine lv_sipush (v := 300) hx hb dX10_init_1355 (by decide) ?_
  refine hk_newa hx hb hts hW 87 td_87 (atype := .int) rfl kw_186 (tys := P_ty dA) (t0 := 0) rfl (fun _ => Iff.rfl) rfl (i := (300 : Int32)) (by decide) (Nat.le_of_ble_eq_true rfl) (Nat.le_of_ble_eq_true rfl) (Nat.le_of_ble_eq_true rfl) dX10_init_1358 (fun q_367 H h_366 eh_366 hqq_367 hW hs gq_367 => ?_)
  have f_5 := (hs.o gy trivial rfl).2.trans f_5
  have f_10 := (hs.o gy trivial rfl).2.trans f_10
  have f_15 := (hs.o gy trivial rfl).2.trans f_15
  have f_20 := (hs.o gy trivial rfl).2.trans f_20
  have f_25 := (hs.o gy trivial rfl).2.trans f_25
  have f_30 := (hs.o gy trivial rfl).2.trans f_30
  have f_35 := (hs.o gy trivial rfl).2.trans f_35
  have f_225 := (hs.o gy trivial rfl).2.trans f_225
  have f_230 := (hs.o gy trivial rfl).2.trans f_230
  have f_235 := (hs.o gy trivial rfl).2.trans f_235
  have f_240 := (hs.o gy trivial rfl).2.trans f_240
  have f_245 := (hs.o gy trivial rfl).2.trans f_245
  have f_250 := (hs.o gy trivial rfl).2.trans f_250
  have hM := hM.tr (hs.mono (by decide))
  have gy := gy.S hs
  have gq_2 := gq_2.S hs
  have gq_7 := gq_7.S hs
  have gq_12 := gq_12.S hs
  have gq_17 := gq_17.S hs
  have gq_22 := gq_22.S hs
  have gq_27 := gq_27.S hs
  have gq_32 := gq_32.S hs
  have gq_222 := gq_222.S hs
  have gq_227 := gq_227.S hs
  have gq_232 := gq_232.S hs
  have gq_237 := gq_237.S hs
  have gq_242 := gq_242.S hs
  have gq_247 := gq_247.S hs
  have f_368 : (∀ j, h_366.2.1 q_367 j = 0) ∧ ∀ j, h_366.2.2 q_367 j = none := by rw [eh_366]; exact ⟨fun _ => hx_nw_i, fun _ => hx_nw_r⟩
  refine hk_putrF hx hb hts hC_10 hown hW gy td_10 52 (by decide) rfl kw_1195 ⟨rfl, rfl, rfl⟩ rfl hin rfl (x := (some q_367)) rfl rfl rfl dX10_init_1360 (fun H locs h_369 eh_369 hW hs => ?_)
  have f_5 := (hs.o gy trivial rfl).2.trans f_5
  have f_10 := (hs.o gy trivial rfl).2.trans f_10
  have f_15 := (hs.o gy trivial rfl).2.trans f_15
  have f_20 := (hs.o gy trivial rfl).2.trans f_20
  have f_25 := (hs.o gy trivial rfl).2.trans f_25
  have f_30 := (hs.o gy trivial rfl).2.trans f_30
  have f_35 := (hs.o gy trivial rfl).2.trans f_35
  have f_225 := (hs.o gy trivial rfl).2.trans f_225
  have f_230 := (hs.o gy trivial rfl).2.trans f_230
  have f_235 := (hs.o gy trivial rfl).2.trans f_235
  have f_240 := (hs.o gy trivial rfl).2.trans f_240
  have f_245 := (hs.o gy trivial rfl).2.trans f_245
  have f_250 := (hs.o gy trivial rfl).2.trans f_250
  have f_368 : _ ∧ _ := ⟨fun j => (hs.a gq_367 rfl j).1.trans (f_368.1 j), fun j => (hs.a gq_367 rfl j).2.trans (f_368.2 j)⟩
  have hM := hM.tr (hs.mono (by decide))
  have gy := gy.S hs
  have gq_2 := gq_2.S hs
  have gq_7 := gq_7.S hs
  have gq_12 := gq_12.S hs
  have gq_17 := gq_17.S hs
  have gq_22 := gq_22.S hs
  have gq_27 := gq_27.S hs
  have gq_32 := gq_32.S hs
  have gq_222 := gq_222.S hs
  have gq_227 := gq_227.S hs
  have gq_232 := gq_232.S hs
  have gq_237 := gq_237.S hs
  have gq_242 := gq_242.S hs
  have gq_247 := gq_247.S hs
  have gq_367 := gq_367.S hs
  have f_370 : h_369.2.2 y 52 = (some q_367) := by rw [eh_369]; exact hx_pr_at _ _ _ _
  refine lv_aload_n hx hb dX10_init_1363 rfl (lv_at hl 0 rfl) ?_
  refine lv_sipush (v := 800) hx hb dX10_init_1364 (by decide) ?_
  refine hk_newa hx hb hts hW 88 td_88 (atype := .int) rfl kw_186 (tys := P_ty dA) (t0 := 0) rfl (fun _ => Iff.rfl) rfl (i := (800 : Int32)) (by decide) (Nat.le_of_ble_eq_true rfl) (Nat.le_of_ble_eq_true rfl) (Nat.le_of_ble_eq_true rfl) dX10_init_1367 (fun q_372 H h_371 eh_371 hqq_372 hW hs gq_372 => ?_)
  have f_5 := (hs.o gy trivial rfl).2.trans f_5
  have f_10 := (hs.o gy trivial rfl).2.trans f_10
  have f_15 := (hs.o gy trivial rfl).2.trans f_15
  have f_20 := (hs.o gy trivial rfl).2.trans f_20
  have f_25 := (hs.o gy trivial rfl).2.trans f_25
  have f_30 := (hs.o gy trivial rfl).2.trans f_30
  have f_35 := (hs.o gy trivial rfl).2.trans f_35
  have f_225 := (hs.o gy trivial rfl).2.trans f_225
  have f_230 := (hs.o gy trivial rfl).2.trans f_230
  have f_235 := (hs.o gy trivial rfl).2.trans f_235
  have f_240 := (hs.o gy trivial rfl).2.trans f_240
  have f_245 := (hs.o gy trivial rfl).2.trans f_245
  have f_250 := (hs.o gy trivial rfl).2.trans f_250
  have hM := hM.tr (hs.mono (by decide))
  have gy := gy.S hs
  have gq_2 := gq_2.S hs
  have gq_7 := gq_7.S hs
  have gq_12 := gq_12.S hs
  have gq_17 := gq_17.S hs
  have gq_22 := gq_22.S hs
  have gq_27 := gq_27.S hs
  have gq_32 := gq_32.S hs
  have gq_222 := gq_222.S hs
  have gq_227 := gq_227.S hs
  have gq_232 := gq_232.S hs
  have gq_237 := gq_237.S hs
  have gq_242 := gq_242.S hs
  have gq_247 := gq_247.S hs
  have f_373 : (∀ j, h_371.2.1 q_372 j = 0) ∧ ∀ j, h_371.2.2 q_372 j = none := by rw [eh_371]; exact ⟨fun _ => hx_nw_i, fun _ => hx_nw_r⟩
  refine hk_putrF hx hb hts hC_10 hown hW gy td_10 53 (by decide) rfl kw_1196 ⟨rfl, rfl, rfl⟩ rfl hin rfl (x := (some q_372)) rfl rfl rfl dX10_init_1369 (fun H locs h_374 eh_374 hW hs => ?_)
  have f_5 := (hs.o gy trivial rfl).2.trans f_5
  have f_10 := (hs.o gy trivial rfl).2.trans f_10
  have f_15 := (hs.o gy trivial rfl).2.trans f_15
  have f_20 := (hs.o gy trivial rfl).2.trans f_20
  have f_25 := (hs.o gy trivial rfl).2.trans f_25
  have f_30 := (hs.o gy trivial rfl).2.trans f_30
  have f_35 := (hs.o gy trivial rfl).2.trans f_35
  have f_225 := (hs.o gy trivial rfl).2.trans f_225
  have f_230 := (hs.o gy trivial rfl).2.trans f_230
  have f_235 := (hs.o gy trivial rfl).2.trans f_235
  have f_240 := (hs.o gy trivial rfl).2.trans f_240
  have f_245 := (hs.o gy trivial rfl).2.trans f_245
  have f_250 := (hs.o gy trivial rfl).2.trans f_250
  have f_373 : _ ∧ _ := ⟨fun j => (hs.a gq_372 rfl j).1.trans (f_373.1 j), fun j => (hs.a gq_372 rfl j).2.trans (f_373.2 j)⟩
  have hM := hM.tr (hs.mono (by decide))
  have gy := gy.S hs
  have gq_2 := gq_2.S hs
  have gq_7 := gq_7.S hs
  have gq_12 := gq_12.S hs
  have gq_17 := gq_17.S hs
  have gq_22 := gq_22.S hs
  have gq_27 := gq_27.S hs
  have gq_32 := gq_32.S hs
  have gq_222 := gq_222.S hs
  have gq_227 := gq_227.S hs
  have gq_232 := gq_232.S hs
  have gq_237 := gq_237.S hs
  have gq_242 := gq_242.S hs
  have gq_247 := gq_247.S hs
  have gq_372 := gq_372.S hs
  have f_375 : h_374.2.2 y 53 = (some q_372) := by rw [eh_374]; exact hx_pr_at _ _ _ _
  refine W.widen (k := 40) (n := 7451) (Nat.le_of_ble_eq_true rfl) (Nat.le_of_ble_eq_true rfl) ?_
  exact sg_X10_init_17 l dC dI dA L h sz y q_2 q_7 q_12 q_17 q_22 q_27 q_32 q_222 q_227 q_232 q_237 q_242 q_247 hx hb hml hr hlk hts hown hin hsz (((L1 ++ [q_362]) ++ [q_367]) ++ [q_372]) h_374 _ _ ls hW hM f_5 f_10 f_15 f_20 f_25 f_30 f_35 f_225 f_230 f_235 f_240 f_245 f_250  gy gq_2 gq_7 gq_12 gq_17 gq_22 gq_27 gq_32 gq_222 gq_227 gq_232 gq_237 gq_242 gq_247 hl

set_option maxHeartbeats 4000000 in
set_option maxRecDepth 100000 in
theorem sg_X10_init_15 (l : Launch) (dC : Nat → ClassId) (dI : Nat → Nat → Nat) (dA : Nat → ClassId) (L : List Nat) (h : hx_h) (sz : Nat) (y : Nat) (q_2 q_7 q_12 q_17 q_22 q_27 q_32 q_222 q_227 q_232 q_237 q_242 q_247 : Nat) {p : Program} {e : Env} {s : State} {m : MethodId} {below : List Frame} {meth : Method} {c : Code} (hx : p.tables.exec = Jvm.exec) (hb : c.code = cX10_init) (hml : c.maxLocals = 2) (hr : meth.sig.returnType = none) (hlk : meth.locks = false) (hts : ∀ w ∈ hx_all, w.before ([.ref y] : List Value).toArray s = true) (hown : s.vm.findClass "SmallCourtModel" = some m.cls) (hin : meth.name = "<init>") (hsz : s.heap.size = sz) (L1 : List Nat) (hl1 : hx_h) (H : Heap) (locs : List Loc) (ls : Array Slot) (hW : hx_W P_tb (P_ty dA) (dC, dI) vwCl (hx_A L sz) s.heap L1 hl1 s H locs) (hM : hx_S P_tb [(10, 2), (10, 3), (10, 4), (10, 5), (10, 6), (10, 12), (10, 14), (10, 15), (10, 16), (10, 17), (10, 18), (10, 19), (10, 21), (10, 22), (10, 23), (10, 24), (10, 25), (10, 26), (10, 27), (10, 28), (10, 30), (10, 31), (10, 32), (10, 33), (10, 34), (10, 35), (10, 37), (10, 38), (10, 39), (10, 40), (10, 41), (10, 42), (10, 43), (10, 44), (10, 45), (10, 46), (10, 47), (10, 48), (10, 49), (10, 50), (10, 51), (10, 52), (10, 53), (10, 54), (10, 55), (10, 56), (10, 58), (10, 60), (10, 61), (10, 62), (10, 63), (10, 64), (10, 65), (10, 66), (10, 73), (10, 74), (10, 76), (10, 77), (10, 78), (10, 79), (10, 80), (10, 81), (10, 82), (10, 85), (10, 88), (10, 89), (10, 91), (10, 93), (10, 94), (10, 97), (50, 0), (51, 0), (52, 0), (55, 0), (57, 0)] L h L1 hl1) (f_5 : hl1.2.2 y 2 = some q_2) (f_10 : hl1.2.2 y 3 = some q_7) (f_15 : hl1.2.2 y 4 = some q_12) (f_20 : hl1.2.2 y 5 = some q_17) (f_25 : hl1.2.2 y 6 = some q_22) (f_30 : hl1.2.2 y 12 = some q_27) (f_35 : hl1.2.2 y 15 = some q_32) (f_225 : hl1.2.2 y 21 = some q_222) (f_230 : hl1.2.2 y 22 = some q_227) (f_235 : hl1.2.2 y 23 = some q_232) (f_240 : hl1.2.2 y 24 = some q_237) (f_245 : hl1.2.2 y 25 = some q_242) (f_250 : hl1.2.2 y 26 = some q_247)  (gy : hx_g L1 hl1 y 10) (gq_2 : hx_g L1 hl1 q_2 49) (gq_7 : hx_g L1 hl1 q_7 50) (gq_12 : hx_g L1 hl1 q_12 51) (gq_17 : hx_g L1 hl1 q_17 52) (gq_22 : hx_g L1 hl1 q_22 53) (gq_27 : hx_g L1 hl1 q_27 54) (gq_32 : hx_g L1 hl1 q_32 55) (gq_222 : hx_g L1 hl1 q_222 58) (gq_227 : hx_g L1 hl1 q_227 59) (gq_232 : hx_g L1 hl1 q_232 60) (gq_237 : hx_g L1 hl1 q_237 61) (gq_242 : hx_g L1 hl1 q_242 62) (gq_247 : hx_g L1 hl1 q_247 63) (hl : lv_has ls 2 [(0, .ref y)]) : W p l e ({ frames := 2, cells := 67, slots := 15340, locals := 42 }) s m ([.ref y] : List Value).toArray below meth c H locs 34 5951 (MQ below (va_Qv (fun (u : List Nat × hx_h) => hx_S P_tb [(10, 2), (10, 3), (10, 4), (10, 5), (10, 6), (10, 12), (10, 14), (10, 15), (10, 16), (10, 17), (10, 18), (10, 19), (10, 21), (10, 22), (10, 23), (10, 24), (10, 25), (10, 26), (10, 27), (10, 28), (10, 30), (10, 31), (10, 32), (10, 33), (10, 34), (10, 35), (10, 37), (10, 38), (10, 39), (10, 40), (10, 41), (10, 42), (10, 43), (10, 44), (10, 45), (10, 46), (10, 47), (10, 48), (10, 49), (10, 50), (10, 51), (10, 52), (10, 53), (10, 54), (10, 55), (10, 56), (10, 58), (10, 60), (10, 61), (10, 62), (10, 63), (10, 64), (10, 65), (10, 66), (10, 73), (10, 74), (10, 76), (10, 77), (10, 78), (10, 79), (10, 80), (10, 81), (10, 82), (10, 85), (10, 88), (10, 89), (10, 91), (10, 93), (10, 94), (10, 97), (50, 0), (51, 0), (52, 0), (55, 0), (57, 0)] L h u.1 u.2 ∧ (∃ q, u.2.2.2 y 2 = some q ∧ hx_g u.1 u.2 q 49) ∧ (∃ q, u.2.2.2 y 3 = some q ∧ hx_g u.1 u.2 q 50 ∧ (∀ j, j < 13 → u.2.2.1 q j = P_w1 j)) ∧ (∃ q, u.2.2.2 y 4 = some q ∧ hx_g u.1 u.2 q 51) ∧ (∃ q, u.2.2.2 y 5 = some q ∧ hx_g u.1 u.2 q 52) ∧ (∃ q, u.2.2.2 y 6 = some q ∧ hx_g u.1 u.2 q 53) ∧ (∃ q, u.2.2.2 y 12 = some q ∧ hx_g u.1 u.2 q 54) ∧ (∃ q, u.2.2.2 y 15 = some q ∧ hx_g u.1 u.2 q 55) ∧ (∃ q, u.2.2.2 y 21 = some q ∧ hx_g u.1 u.2 q 58) ∧ (∃ q, u.2.2.2 y 22 = some q ∧ hx_g u.1 u.2 q 59) ∧ (∃ q, u.2.2.2 y 23 = some q ∧ hx_g u.1 u.2 q 60) ∧ (∃ q, u.2.2.2 y 24 = some q ∧ hx_g u.1 u.2 q 61) ∧ (∃ q, u.2.2.2 y 25 = some q ∧ hx_g u.1 u.2 q 62) ∧ (∃ q, u.2.2.2 y 26 = some q ∧ hx_g u.1 u.2 q 63) ∧ (∃ q, u.2.2.2 y 82 = some q ∧ hx_g u.1 u.2 q 108) ∧ (∃ q, u.2.2.2 y 94 = some q ∧ hx_g u.1 u.2 q 114)) (hx_E P_tb (P_ty dA) (dC, dI) vwCl (hx_A L sz)) (hx_A L sz)) ([.ref y] : List Value).toArray s 67 15340 (hx_A L sz)) (F0 m 1322 ls []) := by
  refine lv_aload_n hx hb dX10_init_1322 rfl (lv_at hl 0 rfl) ?_
  refine lv_bipush (v := 100) hx hb dX10_init_1323 (by decide) ?_
  refine hk_newa hx hb hts hW 83 td_83 (atype := .int) rfl kw_186 (tys := P_ty dA) (t0 := 0) rfl (fun _ => Iff.rfl) rfl (i := (100 : Int32)) (by decide) (Nat.le_of_ble_eq_true rfl) (Nat.le_of_ble_eq_true rfl) (Nat.le_of_ble_eq_true rfl) dX10_init_1325 (fun q_347 H h_346 eh_346 hqq_347 hW hs gq_347 => ?_)
  have f_5 := (hs.o gy trivial rfl).2.trans f_5
  have f_10 := (hs.o gy trivial rfl).2.trans f_10
  have f_15 := (hs.o gy trivial rfl).2.trans f_15
  have f_20 := (hs.o gy trivial rfl).2.trans f_20
  have f_25 := (hs.o gy trivial rfl).2.trans f_25
  have f_30 := (hs.o gy trivial rfl).2.trans f_30
  have f_35 := (hs.o gy trivial rfl).2.trans f_35
  have f_225 := (hs.o gy trivial rfl).2.trans f_225
  have f_230 := (hs.o gy trivial rfl).2.trans f_230
  have f_235 := (hs.o gy trivial rfl).2.trans f_235
  have f_240 := (hs.o gy trivial rfl).2.trans f_240
  have f_245 := (hs.o gy trivial rfl).2.trans f_245
  have f_250 := (hs.o gy trivial rfl).2.trans f_250
  have hM := hM.tr (hs.mono (by decide))
  have gy := gy.S hs
  have gq_2 := gq_2.S hs
  have gq_7 := gq_7.S hs
  have gq_12 := gq_12.S hs
  have gq_17 := gq_17.S hs
  have gq_22 := gq_22.S hs
  have gq_27 := gq_27.S hs
  have gq_32 := gq_32.S hs
  have gq_222 := gq_222.S hs
  have gq_227 := gq_227.S hs
  have gq_232 := gq_232.S hs
  have gq_237 := gq_237.S hs
  have gq_242 := gq_242.S hs
  have gq_247 := gq_247.S hs
  have f_348 : (∀ j, h_346.2.1 q_347 j = 0) ∧ ∀ j, h_346.2.2 q_347 j = none := by rw [eh_346]; exact ⟨fun _ => hx_nw_i, fun _ => hx_nw_r⟩
  refine hk_putrF hx hb hts hC_10 hown hW gy td_10 48 (by decide) rfl kw_1191 ⟨rfl, rfl, rfl⟩ rfl hin rfl (x := (some q_347)) rfl rfl rfl dX10_init_1327 (fun H locs h_349 eh_349 hW hs => ?_)
  have f_5 := (hs.o gy trivial rfl).2.trans f_5
  have f_10 := (hs.o gy trivial rfl).2.trans f_10
  have f_15 := (hs.o gy trivial rfl).2.trans f_15
  have f_20 := (hs.o gy trivial rfl).2.trans f_20
  have f_25 := (hs.o gy trivial rfl).2.trans f_25
  have f_30 := (hs.o gy trivial rfl).2.trans f_30
  have f_35 := (hs.o gy trivial rfl).2.trans f_35
  have f_225 := (hs.o gy trivial rfl).2.trans f_225
  have f_230 := (hs.o gy trivial rfl).2.trans f_230
  have f_235 := (hs.o gy trivial rfl).2.trans f_235
  have f_240 := (hs.o gy trivial rfl).2.trans f_240
  have f_245 := (hs.o gy trivial rfl).2.trans f_245
  have f_250 := (hs.o gy trivial rfl).2.trans f_250
  have f_348 : _ ∧ _ := ⟨fun j => (hs.a gq_347 rfl j).1.trans (f_348.1 j), fun j => (hs.a gq_347 rfl j).2.trans (f_348.2 j)⟩
  have hM := hM.tr (hs.mono (by decide))
  have gy := gy.S hs
  have gq_2 := gq_2.S hs
  have gq_7 := gq_7.S hs
  have gq_12 := gq_12.S hs
  have gq_17 := gq_17.S hs
  have gq_22 := gq_22.S hs
  have gq_27 := gq_27.S hs
  have gq_32 := gq_32.S hs
  have gq_222 := gq_222.S hs
  have gq_227 := gq_227.S hs
  have gq_232 := gq_232.S hs
  have gq_237 := gq_237.S hs
  have gq_242 := gq_242.S hs
  have gq_247 := gq_247.S hs
  have gq_347 := gq_347.S hs
  have f_350 : h_349.2.2 y 48 = (some q_347) := by rw [eh_349]; exact hx_pr_at _ _ _ _
  refine lv_aload_n hx hb dX10_init_1330 rfl (lv_at hl 0 rfl) ?_
  refine lv_bipush (v := 100) hx hb dX10_init_1331 (by decide) ?_
  refine hk_newa hx hb hts hW 84 td_84 (atype := .int) rfl kw_186 (tys := P_ty dA) (t0 := 0) rfl (fun _ => Iff.rfl) rfl (i := (100 : Int32)) (by decide) (Nat.le_of_ble_eq_true rfl) (Nat.le_of_ble_eq_true rfl) (Nat.le_of_ble_eq_true rfl) dX10_init_1333 (fun q_352 H h_351 eh_351 hqq_352 hW hs gq_352 => ?_)
  have f_5 := (hs.o gy trivial rfl).2.trans f_5
  have f_10 := (hs.o gy trivial rfl).2.trans f_10
  have f_15 := (hs.o gy trivial rfl).2.trans f_15
  have f_20 := (hs.o gy trivial rfl).2.trans f_20
  have f_25 := (hs.o gy trivial rfl).2.trans f_25
  have f_30 := (hs.o gy trivial rfl).2.trans f_30
  have f_35 := (hs.o gy trivial rfl).2.trans f_35
  have f_225 := (hs.o gy trivial rfl).2.trans f_225
  have f_230 := (hs.o gy trivial rfl).2.trans f_230
  have f_235 := (hs.o gy trivial rfl).2.trans f_235
  have f_240 := (hs.o gy trivial rfl).2.trans f_240
  have f_245 := (hs.o gy trivial rfl).2.trans f_245
  have f_250 := (hs.o gy trivial rfl).2.trans f_250
  have hM := hM.tr (hs.mono (by decide))
  have gy := gy.S hs
  have gq_2 := gq_2.S hs
  have gq_7 := gq_7.S hs
  have gq_12 := gq_12.S hs
  have gq_17 := gq_17.S hs
  have gq_22 := gq_22.S hs
  have gq_27 := gq_27.S hs
  have gq_32 := gq_32.S hs
  have gq_222 := gq_222.S hs
  have gq_227 := gq_227.S hs
  have gq_232 := gq_232.S hs
  have gq_237 := gq_237.S hs
  have gq_242 := gq_242.S hs
  have gq_247 := gq_247.S hs
  have f_353 : (∀ j, h_351.2.1 q_352 j = 0) ∧ ∀ j, h_351.2.2 q_352 j = none := by rw [eh_351]; exact ⟨fun _ => hx_nw_i, fun _ => hx_nw_r⟩
  refine hk_putrF hx hb hts hC_10 hown hW gy td_10 49 (by decide) rfl kw_1192 ⟨rfl, rfl, rfl⟩ rfl hin rfl (x := (some q_352)) rfl rfl rfl dX10_init_1335 (fun H locs h_354 eh_354 hW hs => ?_)
  have f_5 := (hs.o gy trivial rfl).2.trans f_5
  have f_10 := (hs.o gy trivial rfl).2.trans f_10
  have f_15 := (hs.o gy trivial rfl).2.trans f_15
  have f_20 := (hs.o gy trivial rfl).2.trans f_20
  have f_25 := (hs.o gy trivial rfl).2.trans f_25
  have f_30 := (hs.o gy trivial rfl).2.trans f_30
  have f_35 := (hs.o gy trivial rfl).2.trans f_35
  have f_225 := (hs.o gy trivial rfl).2.trans f_225
  have f_230 := (hs.o gy trivial rfl).2.trans f_230
  have f_235 := (hs.o gy trivial rfl).2.trans f_235
  have f_240 := (hs.o gy trivial rfl).2.trans f_240
  have f_245 := (hs.o gy trivial rfl).2.trans f_245
  have f_250 := (hs.o gy trivial rfl).2.trans f_250
  have f_353 : _ ∧ _ := ⟨fun j => (hs.a gq_352 rfl j).1.trans (f_353.1 j), fun j => (hs.a gq_352 rfl j).2.trans (f_353.2 j)⟩
  have hM := hM.tr (hs.mono (by decide))
  have gy := gy.S hs
  have gq_2 := gq_2.S hs
  have gq_7 := gq_7.S hs
  have gq_12 := gq_12.S hs
  have gq_17 := gq_17.S hs
  have gq_22 := gq_22.S hs
  have gq_27 := gq_27.S hs
  have gq_32 := gq_32.S hs
  have gq_222 := gq_222.S hs
  have gq_227 := gq_227.S hs
  have gq_232 := gq_232.S hs
  have gq_237 := gq_237.S hs
  have gq_242 := gq_242.S hs
  have gq_247 := gq_247.S hs
  have gq_352 := gq_352.S hs
  have f_355 : h_354.2.2 y 49 = (some q_352) := by rw [eh_354]; exact hx_pr_at _ _ _ _
  refine lv_aload_n hx hb dX10_init_1338 rfl (lv_at hl 0 rfl) ?_
  refine lv_bipush (v := 100) hx hb dX10_init_1339 (by decide) ?_
  refine hk_newa hx hb hts hW 85 td_85 (atype := .int) rfl kw_186 (tys := P_ty dA) (t0 := 0) rfl (fun _ => Iff.rfl) rfl (i := (100 : Int32)) (by decide) (Nat.le_of_ble_eq_true rfl) (Nat.le_of_ble_eq_true rfl) (Nat.le_of_ble_eq_true rfl) dX10_init_1341 (fun q_357 H h_356 eh_356 hqq_357 hW hs gq_357 => ?_)
  have f_5 := (hs.o gy trivial rfl).2.trans f_5
  have f_10 := (hs.o gy trivial rfl).2.trans f_10
  have f_15 := (hs.o gy trivial rfl).2.trans f_15
  have f_20 := (hs.o gy trivial rfl).2.trans f_20
  have f_25 := (hs.o gy trivial rfl).2.trans f_25
  have f_30 := (hs.o gy trivial rfl).2.trans f_30
  have f_35 := (hs.o gy trivial rfl).2.trans f_35
  have f_225 := (hs.o gy trivial rfl).2.trans f_225
  have f_230 := (hs.o gy trivial rfl).2.trans f_230
  have f_235 := (hs.o gy trivial rfl).2.trans f_235
  have f_240 := (hs.o gy trivial rfl).2.trans f_240
  have f_245 := (hs.o gy trivial rfl).2.trans f_245
  have f_250 := (hs.o gy trivial rfl).2.trans f_250
  have hM := hM.tr (hs.mono (by decide))
  have gy := gy.S hs
  have gq_2 := gq_2.S hs
  have gq_7 := gq_7.S hs
  have gq_12 := gq_12.S hs
  have gq_17 := gq_17.S hs
  have gq_22 := gq_22.S hs
  have gq_27 := gq_27.S hs
  have gq_32 := gq_32.S hs
  have gq_222 := gq_222.S hs
  have gq_227 := gq_227.S hs
  have gq_232 := gq_232.S hs
  have gq_237 := gq_237.S hs
  have gq_242 := gq_242.S hs
  have gq_247 := gq_247.S hs
  have f_358 : (∀ j, h_356.2.1 q_357 j = 0) ∧ ∀ j, h_356.2.2 q_357 j = none := by rw [eh_356]; exact ⟨fun _ => hx_nw_i, fun _ => hx_nw_r⟩
  refine hk_putrF hx hb hts hC_10 hown hW gy td_10 50 (by decide) rfl kw_1193 ⟨rfl, rfl, rfl⟩ rfl hin rfl (x := (some q_357)) rfl rfl rfl dX10_init_1343 (fun H locs h_359 eh_359 hW hs => ?_)
  have f_5 := (hs.o gy trivial rfl).2.trans f_5
  have f_10 := (hs.o gy trivial rfl).2.trans f_10
  have f_15 := (hs.o gy trivial rfl).2.trans f_15
  have f_20 := (hs.o gy trivial rfl).2.trans f_20
  have f_25 := (hs.o gy trivial rfl).2.trans f_25
  have f_30 := (hs.o gy trivial rfl).2.trans f_30
  have f_35 := (hs.o gy trivial rfl).2.trans f_35
  have f_225 := (hs.o gy trivial rfl).2.trans f_225
  have f_230 := (hs.o gy trivial rfl).2.trans f_230
  have f_235 := (hs.o gy trivial rfl).2.trans f_235
  have f_240 := (hs.o gy trivial rfl).2.trans f_240
  have f_245 := (hs.o gy trivial rfl).2.trans f_245
  have f_250 := (hs.o gy trivial rfl).2.trans f_250
  have f_358 : _ ∧ _ := ⟨fun j => (hs.a gq_357 rfl j).1.trans (f_358.1 j), fun j => (hs.a gq_357 rfl j).2.trans (f_358.2 j)⟩
  have hM := hM.tr (hs.mono (by decide))
  have gy := gy.S hs
  have gq_2 := gq_2.S hs
  have gq_7 := gq_7.S hs
  have gq_12 := gq_12.S hs
  have gq_17 := gq_17.S hs
  have gq_22 := gq_22.S hs
  have gq_27 := gq_27.S hs
  have gq_32 := gq_32.S hs
  have gq_222 := gq_222.S hs
  have gq_227 := gq_227.S hs
  have gq_232 := gq_232.S hs
  have gq_237 := gq_237.S hs
  have gq_242 := gq_242.S hs
  have gq_247 := gq_247.S hs
  have gq_357 := gq_357.S hs
  have f_360 : h_359.2.2 y 50 = (some q_357) := by rw [eh_359]; exact hx_pr_at _ _ _ _
  refine W.widen (k := 37) (n := 6251) (Nat.le_of_ble_eq_true rfl) (Nat.le_of_ble_eq_true rfl) ?_
  exact sg_X10_init_16 l dC dI dA L h sz y q_2 q_7 q_12 q_17 q_22 q_27 q_32 q_222 q_227 q_232 q_237 q_242 q_247 hx hb hml hr hlk hts hown hin hsz (((L1 ++ [q_347]) ++ [q_352]) ++ [q_357]) h_359 _ _ ls hW hM f_5 f_10 f_15 f_20 f_25 f_30 f_35 f_225 f_230 f_235 f_240 f_245 f_250  gy gq_2 gq_7 gq_12 gq_17 gq_22 gq_27 gq_32 gq_222 gq_227 gq_232 gq_237 gq_242 gq_247 hl

set_option maxHeartbeats 4000000 in
set_option maxRecDepth 100000 in
theorem sg_X10_init_14 (l : Launch) (dC : Nat → ClassId) (dI : Nat → Nat → Nat) (dA : Nat → ClassId) (L : List Nat) (h : hx_h) (sz : Nat) (y : Nat) (q_2 q_7 q_12 q_17 q_22 q_27 q_32 q_222 q_227 q_232 q_237 q_242 q_247 : Nat) {p : Program} {e : Env} {s : State} {m : MethodId} {below : List Frame} {meth : Method} {c : Code} (hx : p.tables.exec = Jvm.exec) (hb : c.code = cX10_init) (hml : c.maxLocals = 2) (hr : meth.sig.returnType = none) (hlk : meth.locks = false) (hts : ∀ w ∈ hx_all, w.before ([.ref y] : List Value).toArray s = true) (hown : s.vm.findClass "SmallCourtModel" = some m.cls) (hin : meth.name = "<init>") (hsz : s.heap.size = sz) (L1 : List Nat) (hl1 : hx_h) (H : Heap) (locs : List Loc) (ls : Array Slot) (hW : hx_W P_tb (P_ty dA) (dC, dI) vwCl (hx_A L sz) s.heap L1 hl1 s H locs) (hM : hx_S P_tb [(10, 2), (10, 3), (10, 4), (10, 5), (10, 6), (10, 12), (10, 14), (10, 15), (10, 16), (10, 17), (10, 18), (10, 19), (10, 21), (10, 22), (10, 23), (10, 24), (10, 25), (10, 26), (10, 27), (10, 28), (10, 30), (10, 31), (10, 32), (10, 33), (10, 34), (10, 35), (10, 37), (10, 38), (10, 39), (10, 40), (10, 41), (10, 42), (10, 43), (10, 44), (10, 45), (10, 46), (10, 47), (10, 48), (10, 49), (10, 50), (10, 51), (10, 52), (10, 53), (10, 54), (10, 55), (10, 56), (10, 58), (10, 60), (10, 61), (10, 62), (10, 63), (10, 64), (10, 65), (10, 66), (10, 73), (10, 74), (10, 76), (10, 77), (10, 78), (10, 79), (10, 80), (10, 81), (10, 82), (10, 85), (10, 88), (10, 89), (10, 91), (10, 93), (10, 94), (10, 97), (50, 0), (51, 0), (52, 0), (55, 0), (57, 0)] L h L1 hl1) (f_5 : hl1.2.2 y 2 = some q_2) (f_10 : hl1.2.2 y 3 = some q_7) (f_15 : hl1.2.2 y 4 = some q_12) (f_20 : hl1.2.2 y 5 = some q_17) (f_25 : hl1.2.2 y 6 = some q_22) (f_30 : hl1.2.2 y 12 = some q_27) (f_35 : hl1.2.2 y 15 = some q_32) (f_225 : hl1.2.2 y 21 = some q_222) (f_230 : hl1.2.2 y 22 = some q_227) (f_235 : hl1.2.2 y 23 = some q_232) (f_240 : hl1.2.2 y 24 = some q_237) (f_245 : hl1.2.2 y 25 = some q_242) (f_250 : hl1.2.2 y 26 = some q_247)  (gy : hx_g L1 hl1 y 10) (gq_2 : hx_g L1 hl1 q_2 49) (gq_7 : hx_g L1 hl1 q_7 50) (gq_12 : hx_g L1 hl1 q_12 51) (gq_17 : hx_g L1 hl1 q_17 52) (gq_22 : hx_g L1 hl1 q_22 53) (gq_27 : hx_g L1 hl1 q_27 54) (gq_32 : hx_g L1 hl1 q_32 55) (gq_222 : hx_g L1 hl1 q_222 58) (gq_227 : hx_g L1 hl1 q_227 59) (gq_232 : hx_g L1 hl1 q_232 60) (gq_237 : hx_g L1 hl1 q_237 61) (gq_242 : hx_g L1 hl1 q_242 62) (gq_247 : hx_g L1 hl1 q_247 63) (hl : lv_has ls 2 [(0, .ref y)]) : W p l e ({ frames := 2, cells := 67, slots := 15340, locals := 42 }) s m ([.ref y] : List Value).toArray below meth c H locs 31 5651 (MQ below (va_Qv (fun (u : List Nat × hx_h) => hx_S P_tb [(10, 2), (10, 3), (10, 4), (10, 5), (10, 6), (10, 12), (10, 14), (10, 15), (10, 16), (10, 17), (10, 18), (10, 19), (10, 21), (10, 22), (10, 23), (10, 24), (10, 25), (10, 26), (10, 27), (10, 28), (10, 30), (10, 31), (10, 32), (10, 33), (10, 34), (10, 35), (10, 37), (10, 38), (10, 39), (10, 40), (10, 41), (10, 42), (10, 43), (10, 44), (10, 45), (10, 46), (10, 47), (10, 48), (10, 49), (10, 50), (10, 51), (10, 52), (10, 53), (10, 54), (10, 55), (10, 56), (10, 58), (10, 60), (10, 61), (10, 62), (10, 63), (10, 64), (10, 65), (10, 66), (10, 73), (10, 74), (10, 76), (10, 77), (10, 78), (10, 79), (10, 80), (10, 81), (10, 82), (10, 85), (10, 88), (10, 89), (10, 91), (10, 93), (10, 94), (10, 97), (50, 0), (51, 0), (52, 0), (55, 0), (57, 0)] L h u.1 u.2 ∧ (∃ q, u.2.2.2 y 2 = some q ∧ hx_g u.1 u.2 q 49) ∧ (∃ q, u.2.2.2 y 3 = some q ∧ hx_g u.1 u.2 q 50 ∧ (∀ j, j < 13 → u.2.2.1 q j = P_w1 j)) ∧ (∃ q, u.2.2.2 y 4 = some q ∧ hx_g u.1 u.2 q 51) ∧ (∃ q, u.2.2.2 y 5 = some q ∧ hx_g u.1 u.2 q 52) ∧ (∃ q, u.2.2.2 y 6 = some q ∧ hx_g u.1 u.2 q 53) ∧ (∃ q, u.2.2.2 y 12 = some q ∧ hx_g u.1 u.2 q 54) ∧ (∃ q, u.2.2.2 y 15 = some q ∧ hx_g u.1 u.2 q 55) ∧ (∃ q, u.2.2.2 y 21 = some q ∧ hx_g u.1 u.2 q 58) ∧ (∃ q, u.2.2.2 y 22 = some q ∧ hx_g u.1 u.2 q 59) ∧ (∃ q, u.2.2.2 y 23 = some q ∧ hx_g u.1 u.2 q 60) ∧ (∃ q, u.2.2.2 y 24 = some q ∧ hx_g u.1 u.2 q 61) ∧ (∃ q, u.2.2.2 y 25 = some q ∧ hx_g u.1 u.2 q 62) ∧ (∃ q, u.2.2.2 y 26 = some q ∧ hx_g u.1 u.2 q 63) ∧ (∃ q, u.2.2.2 y 82 = some q ∧ hx_g u.1 u.2 q 108) ∧ (∃ q, u.2.2.2 y 94 = some q ∧ hx_g u.1 u.2 q 114)) (hx_E P_tb (P_ty dA) (dC, dI) vwCl (hx_A L sz)) (hx_A L sz)) ([.ref y] : List Value).toArray s 67 15340 (hx_A L sz)) (F0 m 1298 ls []) := by
  refine lv_aload_n hx hb dX10_init_1298 rfl (lv_at hl 0 rfl) ?_
  refine lv_bipush (v := 100) hx hb dX10_init_1299 (by decide) ?_
  refine hk_newa hx hb hts hW 80 td_80 (atype := .int) rfl kw_186 (tys := P_ty dA) (t0 := 0) rfl (fun _ => Iff.rfl) rfl (i := (100 : Int32)) (by decide) (Nat.le_of_ble_eq_true rfl) (Nat.le_of_ble_eq_true rfl) (Nat.le_of_ble_eq_true rfl) dX10_init_1301 (fun q_332 H h_331 eh_331 hqq_332 hW hs gq_332 => ?_)
  have f_5 := (hs.o gy trivial rfl).2.trans f_5
  have f_10 := (hs.o gy trivial rfl).2.trans f_10
  have f_15 := (hs.o gy trivial rfl).2.trans f_15
  have f_20 := (hs.o gy trivial rfl).2.trans f_20
  have f_25 := (hs.o gy trivial rfl).2.trans f_25
  have f_30 := (hs.o gy trivial rfl).2.trans f_30
  have f_35 := (hs.o gy trivial rfl).2.trans f_35
  have f_225 := (hs.o gy trivial rfl).2.trans f_225
  have f_230 := (hs.o gy trivial rfl).2.trans f_230
  have f_235 := (hs.o gy trivial rfl).2.trans f_235
  have f_240 := (hs.o gy trivial rfl).2.trans f_240
  have f_245 := (hs.o gy trivial rfl).2.trans f_245
  have f_250 := (hs.o gy trivial rfl).2.trans f_250
  have hM := hM.tr (hs.mono (by decide))
  have gy := gy.S hs
  have gq_2 := gq_2.S hs
  have gq_7 := gq_7.S hs
  have gq_12 := gq_12.S hs
  have gq_17 := gq_17.S hs
  have gq_22 := gq_22.S hs
  have gq_27 := gq_27.S hs
  have gq_32 := gq_32.S hs
  have gq_222 := gq_222.S hs
  have gq_227 := gq_227.S hs
  have gq_232 := gq_232.S hs
  have gq_237 := gq_237.S hs
  have gq_242 := gq_242.S hs
  have gq_247 := gq_247.S hs
  have f_333 : (∀ j, h_331.2.1 q_332 j = 0) ∧ ∀ j, h_331.2.2 q_332 j = none := by rw [eh_331]; exact ⟨fun _ => hx_nw_i, fun _ => hx_nw_r⟩
  refine hk_putrF hx hb hts hC_10 hown hW gy td_10 45 (by decide) rfl kw_1188 ⟨rfl, rfl, rfl⟩ rfl hin rfl (x := (some q_332)) rfl rfl rfl dX10_init_1303 (fun H locs h_334 eh_334 hW hs => ?_)
  have f_5 := (hs.o gy trivial rfl).2.trans f_5
  have f_10 := (hs.o gy trivial rfl).2.trans f_10
  have f_15 := (hs.o gy trivial rfl).2.trans f_15
  have f_20 := (hs.o gy trivial rfl).2.trans f_20
  have f_25 := (hs.o gy trivial rfl).2.trans f_25
  have f_30 := (hs.o gy trivial rfl).2.trans f_30
  have f_35 := (hs.o gy trivial rfl).2.trans f_35
  have f_225 := (hs.o gy trivial rfl).2.trans f_225
  have f_230 := (hs.o gy trivial rfl).2.trans f_230
  have f_235 := (hs.o gy trivial rfl).2.trans f_235
  have f_240 := (hs.o gy trivial rfl).2.trans f_240
  have f_245 := (hs.o gy trivial rfl).2.trans f_245
  have f_250 := (hs.o gy trivial rfl).2.trans f_250
  have f_333 : _ ∧ _ := ⟨fun j => (hs.a gq_332 rfl j).1.trans (f_333.1 j), fun j => (hs.a gq_332 rfl j).2.trans (f_333.2 j)⟩
  have hM := hM.tr (hs.mono (by decide))
  have gy := gy.S hs
  have gq_2 := gq_2.S hs
  have gq_7 := gq_7.S hs
  have gq_12 := gq_12.S hs
  have gq_17 := gq_17.S hs
  have gq_22 := gq_22.S hs
  have gq_27 := gq_27.S hs
  have gq_32 := gq_32.S hs
  have gq_222 := gq_222.S hs
  have gq_227 := gq_227.S hs
  have gq_232 := gq_232.S hs
  have gq_237 := gq_237.S hs
  have gq_242 := gq_242.S hs
  have gq_247 := gq_247.S hs
  have gq_332 := gq_332.S hs
  have f_335 : h_334.2.2 y 45 = (some q_332) := by rw [eh_334]; exact hx_pr_at _ _ _ _
  refine lv_aload_n hx hb dX10_init_1306 rfl (lv_at hl 0 rfl) ?_
  refine lv_bipush (v := 100) hx hb dX10_init_1307 (by decide) ?_
  refine hk_newa hx hb hts hW 81 td_81 (atype := .int) rfl kw_186 (tys := P_ty dA) (t0 := 0) rfl (fun _ => Iff.rfl) rfl (i := (100 : Int32)) (by decide) (Nat.le_of_ble_eq_true rfl) (Nat.le_of_ble_eq_true rfl) (Nat.le_of_ble_eq_true rfl) dX10_init_1309 (fun q_337 H h_336 eh_336 hqq_337 hW hs gq_337 => ?_)
  have f_5 := (hs.o gy trivial rfl).2.trans f_5
  have f_10 := (hs.o gy trivial rfl).2.trans f_10
  have f_15 := (hs.o gy trivial rfl).2.trans f_15
  have f_20 := (hs.o gy trivial rfl).2.trans f_20
  have f_25 := (hs.o gy trivial rfl).2.trans f_25
  have f_30 := (hs.o gy trivial rfl).2.trans f_30
  have f_35 := (hs.o gy trivial rfl).2.trans f_35
  have f_225 := (hs.o gy trivial rfl).2.trans f_225
  have f_230 := (hs.o gy trivial rfl).2.trans f_230
  have f_235 := (hs.o gy trivial rfl).2.trans f_235
  have f_240 := (hs.o gy trivial rfl).2.trans f_240
  have f_245 := (hs.o gy trivial rfl).2.trans f_245
  have f_250 := (hs.o gy trivial rfl).2.trans f_250
  have hM := hM.tr (hs.mono (by decide))
  have gy := gy.S hs
  have gq_2 := gq_2.S hs
  have gq_7 := gq_7.S hs
  have gq_12 := gq_12.S hs
  have gq_17 := gq_17.S hs
  have gq_22 := gq_22.S hs
  have gq_27 := gq_27.S hs
  have gq_32 := gq_32.S hs
  have gq_222 := gq_222.S hs
  have gq_227 := gq_227.S hs
  have gq_232 := gq_232.S hs
  have gq_237 := gq_237.S hs
  have gq_242 := gq_242.S hs
  have gq_247 := gq_247.S hs
  have f_338 : (∀ j, h_336.2.1 q_337 j = 0) ∧ ∀ j, h_336.2.2 q_337 j = none := by rw [eh_336]; exact ⟨fun _ => hx_nw_i, fun _ => hx_nw_r⟩
  refine hk_putrF hx hb hts hC_10 hown hW gy td_10 46 (by decide) rfl kw_1189 ⟨rfl, rfl, rfl⟩ rfl hin rfl (x := (some q_337)) rfl rfl rfl dX10_init_1311 (fun H locs h_339 eh_339 hW hs => ?_)
  have f_5 := (hs.o gy trivial rfl).2.trans f_5
  have f_10 := (hs.o gy trivial rfl).2.trans f_10
  have f_15 := (hs.o gy trivial rfl).2.trans f_15
  have f_20 := (hs.o gy trivial rfl).2.trans f_20
  have f_25 := (hs.o gy trivial rfl).2.trans f_25
  have f_30 := (hs.o gy trivial rfl).2.trans f_30
  have f_35 := (hs.o gy trivial rfl).2.trans f_35
  have f_225 := (hs.o gy trivial rfl).2.trans f_225
  have f_230 := (hs.o gy trivial rfl).2.trans f_230
  have f_235 := (hs.o gy trivial rfl).2.trans f_235
  have f_240 := (hs.o gy trivial rfl).2.trans f_240
  have f_245 := (hs.o gy trivial rfl).2.trans f_245
  have f_250 := (hs.o gy trivial rfl).2.trans f_250
  have f_338 : _ ∧ _ := ⟨fun j => (hs.a gq_337 rfl j).1.trans (f_338.1 j), fun j => (hs.a gq_337 rfl j).2.trans (f_338.2 j)⟩
  have hM := hM.tr (hs.mono (by decide))
  have gy := gy.S hs
  have gq_2 := gq_2.S hs
  have gq_7 := gq_7.S hs
  have gq_12 := gq_12.S hs
  have gq_17 := gq_17.S hs
  have gq_22 := gq_22.S hs
  have gq_27 := gq_27.S hs
  have gq_32 := gq_32.S hs
  have gq_222 := gq_222.S hs
  have gq_227 := gq_227.S hs
  have gq_232 := gq_232.S hs
  have gq_237 := gq_237.S hs
  have gq_242 := gq_242.S hs
  have gq_247 := gq_247.S hs
  have gq_337 := gq_337.S hs
  have f_340 : h_339.2.2 y 46 = (some q_337) := by rw [eh_339]; exact hx_pr_at _ _ _ _
  refine lv_aload_n hx hb dX10_init_1314 rfl (lv_at hl 0 rfl) ?_
  refine lv_bipush (v := 100) hx hb dX10_init_1315 (by decide) ?_
  refine hk_newa hx hb hts hW 82 td_82 (atype := .int) rfl kw_186 (tys := P_ty dA) (t0 := 0) rfl (fun _ => Iff.rfl) rfl (i := (100 : Int32)) (by decide) (Nat.le_of_ble_eq_true rfl) (Nat.le_of_ble_eq_true rfl) (Nat.le_of_ble_eq_true rfl) dX10_init_1317 (fun q_342 H h_341 eh_341 hqq_342 hW hs gq_342 => ?_)
  have f_5 := (hs.o gy trivial rfl).2.trans f_5
  have f_10 := (hs.o gy trivial rfl).2.trans f_10
  have f_15 := (hs.o gy trivial rfl).2.trans f_15
  have f_20 := (hs.o gy trivial rfl).2.trans f_20
  have f_25 := (hs.o gy trivial rfl).2.trans f_25
  have f_30 := (hs.o gy trivial rfl).2.trans f_30
  have f_35 := (hs.o gy trivial rfl).2.trans f_35
  have f_225 := (hs.o gy trivial rfl).2.trans f_225
  have f_230 := (hs.o gy trivial rfl).2.trans f_230
  have f_235 := (hs.o gy trivial rfl).2.trans f_235
  have f_240 := (hs.o gy trivial rfl).2.trans f_240
  have f_245 := (hs.o gy trivial rfl).2.trans f_245
  have f_250 := (hs.o gy trivial rfl).2.trans f_250
  have hM := hM.tr (hs.mono (by decide))
  have gy := gy.S hs
  have gq_2 := gq_2.S hs
  have gq_7 := gq_7.S hs
  have gq_12 := gq_12.S hs
  have gq_17 := gq_17.S hs
  have gq_22 := gq_22.S hs
  have gq_27 := gq_27.S hs
  have gq_32 := gq_32.S hs
  have gq_222 := gq_222.S hs
  have gq_227 := gq_227.S hs
  have gq_232 := gq_232.S hs
  have gq_237 := gq_237.S hs
  have gq_242 := gq_242.S hs
  have gq_247 := gq_247.S hs
  have f_343 : (∀ j, h_341.2.1 q_342 j = 0) ∧ ∀ j, h_341.2.2 q_342 j = none := by rw [eh_341]; exact ⟨fun _ => hx_nw_i, fun _ => hx_nw_r⟩
  refine hk_putrF hx hb hts hC_10 hown hW gy td_10 47 (by decide) rfl kw_1190 ⟨rfl, rfl, rfl⟩ rfl hin rfl (x := (some q_342)) rfl rfl rfl dX10_init_1319 (fun H locs h_344 eh_344 hW hs => ?_)
  have f_5 := (hs.o gy trivial rfl).2.trans f_5
  have f_10 := (hs.o gy trivial rfl).2.trans f_10
  have f_15 := (hs.o gy trivial rfl).2.trans f_15
  have f_20 := (hs.o gy trivial rfl).2.trans f_20
  have f_25 := (hs.o gy trivial rfl).2.trans f_25
  have f_30 := (hs.o gy trivial rfl).2.trans f_30
  have f_35 := (hs.o gy trivial rfl).2.trans f_35
  have f_225 := (hs.o gy trivial rfl).2.trans f_225
  have f_230 := (hs.o gy trivial rfl).2.trans f_230
  have f_235 := (hs.o gy trivial rfl).2.trans f_235
  have f_240 := (hs.o gy trivial rfl).2.trans f_240
  have f_245 := (hs.o gy trivial rfl).2.trans f_245
  have f_250 := (hs.o gy trivial rfl).2.trans f_250
  have f_343 : _ ∧ _ := ⟨fun j => (hs.a gq_342 rfl j).1.trans (f_343.1 j), fun j => (hs.a gq_342 rfl j).2.trans (f_343.2 j)⟩
  have hM := hM.tr (hs.mono (by decide))
  have gy := gy.S hs
  have gq_2 := gq_2.S hs
  have gq_7 := gq_7.S hs
  have gq_12 := gq_12.S hs
  have gq_17 := gq_17.S hs
  have gq_22 := gq_22.S hs
  have gq_27 := gq_27.S hs
  have gq_32 := gq_32.S hs
  have gq_222 := gq_222.S hs
  have gq_227 := gq_227.S hs
  have gq_232 := gq_232.S hs
  have gq_237 := gq_237.S hs
  have gq_242 := gq_242.S hs
  have gq_247 := gq_247.S hs
  have gq_342 := gq_342.S hs
  have f_345 : h_344.2.2 y 47 = (some q_342) := by rw [eh_344]; exact hx_pr_at _ _ _ _
  refine W.widen (k := 34) (n := 5951) (Nat.le_of_ble_eq_true rfl) (Nat.le_of_ble_eq_true rfl) ?_
  exact sg_X10_init_15 l dC dI dA L h sz y q_2 q_7 q_12 q_17 q_22 q_27 q_32 q_222 q_227 q_232 q_237 q_242 q_247 hx hb hml hr hlk hts hown hin hsz (((L1 ++ [q_332]) ++ [q_337]) ++ [q_342]) h_344 _ _ ls hW hM f_5 f_10 f_15 f_20 f_25 f_30 f_35 f_225 f_230 f_235 f_240 f_245 f_250  gy gq_2 gq_7 gq_12 gq_17 gq_22 gq_27 gq_32 gq_222 gq_227 gq_232 gq_237 gq_242 gq_247 hl

set_option maxHeartbeats 4000000 in
set_option maxRecDepth 100000 in
theorem sg_X10_init_13 (l : Launch) (dC : Nat → ClassId) (dI : Nat → Nat → Nat) (dA : Nat → ClassId) (L : List Nat) (h : hx_h) (sz : Nat) (y : Nat) (q_2 q_7 q_12 q_17 q_22 q_27 q_32 q_222 q_227 q_232 q_237 q_242 q_247 : Nat) {p : Program} {e : Env} {s : State} {m : MethodId} {below : List Frame} {meth : Method} {c : Code} (hx : p.tables.exec = Jvm.exec) (hb : c.code = cX10_init) (hml : c.maxLocals = 2) (hr : meth.sig.returnType = none) (hlk : meth.locks = false) (hts : ∀ w ∈ hx_all, w.before ([.ref y] : List Value).toArray s = true) (hown : s.vm.findClass "SmallCourtModel" = some m.cls) (hin : meth.name = "<init>") (hsz : s.heap.size = sz) (L1 : List Nat) (hl1 : hx_h) (H : Heap) (locs : List Loc) (ls : Array Slot) (hW : hx_W P_tb (P_ty dA) (dC, dI) vwCl (hx_A L sz) s.heap L1 hl1 s H locs) (hM : hx_S P_tb [(10, 2), (10, 3), (10, 4), (10, 5), (10, 6), (10, 12), (10, 14), (10, 15), (10, 16), (10, 17), (10, 18), (10, 19), (10, 21), (10, 22), (10, 23), (10, 24), (10, 25), (10, 26), (10, 27), (10, 28), (10, 30), (10, 31), (10, 32), (10, 33), (10, 34), (10, 35), (10, 37), (10, 38), (10, 39), (10, 40), (10, 41), (10, 42), (10, 43), (10, 44), (10, 45), (10, 46), (10, 47), (10, 48), (10, 49), (10, 50), (10, 51), (10, 52), (10, 53), (10, 54), (10, 55), (10, 56), (10, 58), (10, 60), (10, 61), (10, 62), (10, 63), (10, 64), (10, 65), (10, 66), (10, 73), (10, 74), (10, 76), (10, 77), (10, 78), (10, 79), (10, 80), (10, 81), (10, 82), (10, 85), (10, 88), (10, 89), (10, 91), (10, 93), (10, 94), (10, 97), (50, 0), (51, 0), (52, 0), (55, 0), (57, 0)] L h L1 hl1) (f_5 : hl1.2.2 y 2 = some q_2) (f_10 : hl1.2.2 y 3 = some q_7) (f_15 : hl1.2.2 y 4 = some q_12) (f_20 : hl1.2.2 y 5 = some q_17) (f_25 : hl1.2.2 y 6 = some q_22) (f_30 : hl1.2.2 y 12 = some q_27) (f_35 : hl1.2.2 y 15 = some q_32) (f_225 : hl1.2.2 y 21 = some q_222) (f_230 : hl1.2.2 y 22 = some q_227) (f_235 : hl1.2.2 y 23 = some q_232) (f_240 : hl1.2.2 y 24 = some q_237) (f_245 : hl1.2.2 y 25 = some q_242) (f_250 : hl1.2.2 y 26 = some q_247)  (gy : hx_g L1 hl1 y 10) (gq_2 : hx_g L1 hl1 q_2 49) (gq_7 : hx_g L1 hl1 q_7 50) (gq_12 : hx_g L1 hl1 q_12 51) (gq_17 : hx_g L1 hl1 q_17 52) (gq_22 : hx_g L1 hl1 q_22 53) (gq_27 : hx_g L1 hl1 q_27 54) (gq_32 : hx_g L1 hl1 q_32 55) (gq_222 : hx_g L1 hl1 q_222 58) (gq_227 : hx_g L1 hl1 q_227 59) (gq_232 : hx_g L1 hl1 q_232 60) (gq_237 : hx_g L1 hl1 q_237 61) (gq_242 : hx_g L1 hl1 q_242 62) (gq_247 : hx_g L1 hl1 q_247 63) (hl : lv_has ls 2 [(0, .ref y)]) : W p l e ({ frames := 2, cells := 67, slots := 15340, locals := 42 }) s m ([.ref y] : List Value).toArray below meth c H locs 28 5351 (MQ below (va_Qv (fun (u : List Nat × hx_h) => hx_S P_tb [(10, 2), (10, 3), (10, 4), (10, 5), (10, 6), (10, 12), (10, 14), (10, 15), (10, 16), (10, 17), (10, 18), (10, 19), (10, 21), (10, 22), (10, 23), (10, 24), (10, 25), (10, 26), (10, 27), (10, 28), (10, 30), (10, 31), (10, 32), (10, 33), (10, 34), (10, 35), (10, 37), (10, 38), (10, 39), (10, 40), (10, 41), (10, 42), (10, 43), (10, 44), (10, 45), (10, 46), (10, 47), (10, 48), (10, 49), (10, 50), (10, 51), (10, 52), (10, 53), (10, 54), (10, 55), (10, 56), (10, 58), (10, 60), (10, 61), (10, 62), (10, 63), (10, 64), (10, 65), (10, 66), (10, 73), (10, 74), (10, 76), (10, 77), (10, 78), (10, 79), (10, 80), (10, 81), (10, 82), (10, 85), (10, 88), (10, 89), (10, 91), (10, 93), (10, 94), (10, 97), (50, 0), (51, 0), (52, 0), (55, 0), (57, 0)] L h u.1 u.2 ∧ (∃ q, u.2.2.2 y 2 = some q ∧ hx_g u.1 u.2 q 49) ∧ (∃ q, u.2.2.2 y 3 = some q ∧ hx_g u.1 u.2 q 50 ∧ (∀ j, j < 13 → u.2.2.1 q j = P_w1 j)) ∧ (∃ q, u.2.2.2 y 4 = some q ∧ hx_g u.1 u.2 q 51) ∧ (∃ q, u.2.2.2 y 5 = some q ∧ hx_g u.1 u.2 q 52) ∧ (∃ q, u.2.2.2 y 6 = some q ∧ hx_g u.1 u.2 q 53) ∧ (∃ q, u.2.2.2 y 12 = some q ∧ hx_g u.1 u.2 q 54) ∧ (∃ q, u.2.2.2 y 15 = some q ∧ hx_g u.1 u.2 q 55) ∧ (∃ q, u.2.2.2 y 21 = some q ∧ hx_g u.1 u.2 q 58) ∧ (∃ q, u.2.2.2 y 22 = some q ∧ hx_g u.1 u.2 q 59) ∧ (∃ q, u.2.2.2 y 23 = some q ∧ hx_g u.1 u.2 q 60) ∧ (∃ q, u.2.2.2 y 24 = some q ∧ hx_g u.1 u.2 q 61) ∧ (∃ q, u.2.2.2 y 25 = some q ∧ hx_g u.1 u.2 q 62) ∧ (∃ q, u.2.2.2 y 26 = some q ∧ hx_g u.1 u.2 q 63) ∧ (∃ q, u.2.2.2 y 82 = some q ∧ hx_g u.1 u.2 q 108) ∧ (∃ q, u.2.2.2 y 94 = some q ∧ hx_g u.1 u.2 q 114)) (hx_E P_tb (P_ty dA) (dC, dI) vwCl (hx_A L sz)) (hx_A L sz)) ([.ref y] : List Value).toArray s 67 15340 (hx_A L sz)) (F0 m 1274 ls []) := by
  refine lv_aload_n hx hb dX10_init_1274 rfl (lv_at hl 0 rfl) ?_
  refine lv_bipush (v := 100) hx hb dX10_init_1275 (by decide) ?_
  refine hk_newa hx hb hts hW 77 td_77 (atype := .int) rfl kw_186 (tys := P_ty dA) (t0 := 0) rfl (fun _ => Iff.rfl) rfl (i := (100 : Int32)) (by decide) (Nat.le_of_ble_eq_true rfl) (Nat.le_of_ble_eq_true rfl) (Nat.le_of_ble_eq_true rfl) dX10_init_1277 (fun q_317 H h_316 eh_316 hqq_317 hW hs gq_317 => ?_)
  have f_5 := (hs.o gy trivial rfl).2.trans f_5
  have f_10 := (hs.o gy trivial rfl).2.trans f_10
  have f_15 := (hs.o gy trivial rfl).2.trans f_15
  have f_20 := (hs.o gy trivial rfl).2.trans f_20
  have f_25 := (hs.o gy trivial rfl).2.trans f_25
  have f_30 := (hs.o gy trivial rfl).2.trans f_30
  have f_35 := (hs.o gy trivial rfl).2.trans f_35
  have f_225 := (hs.o gy trivial rfl).2.trans f_225
  have f_230 := (hs.o gy trivial rfl).2.trans f_230
  have f_235 := (hs.o gy trivial rfl).2.trans f_235
  have f_240 := (hs.o gy trivial rfl).2.trans f_240
  have f_245 := (hs.o gy trivial rfl).2.trans f_245
  have f_250 := (hs.o gy trivial rfl).2.trans f_250
  have hM := hM.tr (hs.mono (by decide))
  have gy := gy.S hs
  have gq_2 := gq_2.S hs
  have gq_7 := gq_7.S hs
  have gq_12 := gq_12.S hs
  have gq_17 := gq_17.S hs
  have gq_22 := gq_22.S hs
  have gq_27 := gq_27.S hs
  have gq_32 := gq_32.S hs
  have gq_222 := gq_222.S hs
  have gq_227 := gq_227.S hs
  have gq_232 := gq_232.S hs
  have gq_237 := gq_237.S hs
  have gq_242 := gq_242.S hs
  have gq_247 := gq_247.S hs
  have f_318 : (∀ j, h_316.2.1 q_317 j = 0) ∧ ∀ j, h_316.2.2 q_317 j = none := by rw [eh_316]; exact ⟨fun _ => hx_nw_i, fun _ => hx_nw_r⟩
  refine hk_putrF hx hb hts hC_10 hown hW gy td_10 42 (by decide) rfl kw_1185 ⟨rfl, rfl, rfl⟩ rfl hin rfl (x := (some q_317)) rfl rfl rfl dX10_init_1279 (fun H locs h_319 eh_319 hW hs => ?_)
  have f_5 := (hs.o gy trivial rfl).2.trans f_5
  have f_10 := (hs.o gy trivial rfl).2.trans f_10
  have f_15 := (hs.o gy trivial rfl).2.trans f_15
  have f_20 := (hs.o gy trivial rfl).2.trans f_20
  have f_25 := (hs.o gy trivial rfl).2.trans f_25
  have f_30 := (hs.o gy trivial rfl).2.trans f_30
  have f_35 := (hs.o gy trivial rfl).2.trans f_35
  have f_225 := (hs.o gy trivial rfl).2.trans f_225
  have f_230 := (hs.o gy trivial rfl).2.trans f_230
  have f_235 := (hs.o gy trivial rfl).2.trans f_235
  have f_240 := (hs.o gy trivial rfl).2.trans f_240
  have f_245 := (hs.o gy trivial rfl).2.trans f_245
  have f_250 := (hs.o gy trivial rfl).2.trans f_250
  have f_318 : _ ∧ _ := ⟨fun j => (hs.a gq_317 rfl j).1.trans (f_318.1 j), fun j => (hs.a gq_317 rfl j).2.trans (f_318.2 j)⟩
  have hM := hM.tr (hs.mono (by decide))
  have gy := gy.S hs
  have gq_2 := gq_2.S hs
  have gq_7 := gq_7.S hs
  have gq_12 := gq_12.S hs
  have gq_17 := gq_17.S hs
  have gq_22 := gq_22.S hs
  have gq_27 := gq_27.S hs
  have gq_32 := gq_32.S hs
  have gq_222 := gq_222.S hs
  have gq_227 := gq_227.S hs
  have gq_232 := gq_232.S hs
  have gq_237 := gq_237.S hs
  have gq_242 := gq_242.S hs
  have gq_247 := gq_247.S hs
  have gq_317 := gq_317.S hs
  have f_320 : h_319.2.2 y 42 = (some q_317) := by rw [eh_319]; exact hx_pr_at _ _ _ _
  refine lv_aload_n hx hb dX10_init_1282 rfl (lv_at hl 0 rfl) ?_
  refine lv_bipush (v := 100) hx hb dX10_init_1283 (by decide) ?_
  refine hk_newa hx hb hts hW 78 td_78 (atype := .int) rfl kw_186 (tys := P_ty dA) (t0 := 0) rfl (fun _ => Iff.rfl) rfl (i := (100 : Int32)) (by decide) (Nat.le_of_ble_eq_true rfl) (Nat.le_of_ble_eq_true rfl) (Nat.le_of_ble_eq_true rfl) dX10_init_1285 (fun q_322 H h_321 eh_321 hqq_322 hW hs gq_322 => ?_)
  have f_5 := (hs.o gy trivial rfl).2.trans f_5
  have f_10 := (hs.o gy trivial rfl).2.trans f_10
  have f_15 := (hs.o gy trivial rfl).2.trans f_15
  have f_20 := (hs.o gy trivial rfl).2.trans f_20
  have f_25 := (hs.o gy trivial rfl).2.trans f_25
  have f_30 := (hs.o gy trivial rfl).2.trans f_30
  have f_35 := (hs.o gy trivial rfl).2.trans f_35
  have f_225 := (hs.o gy trivial rfl).2.trans f_225
  have f_230 := (hs.o gy trivial rfl).2.trans f_230
  have f_235 := (hs.o gy trivial rfl).2.trans f_235
  have f_240 := (hs.o gy trivial rfl).2.trans f_240
  have f_245 := (hs.o gy trivial rfl).2.trans f_245
  have f_250 := (hs.o gy trivial rfl).2.trans f_250
  have hM := hM.tr (hs.mono (by decide))
  have gy := gy.S hs
  have gq_2 := gq_2.S hs
  have gq_7 := gq_7.S hs
  have gq_12 := gq_12.S hs
  have gq_17 := gq_17.S hs
  have gq_22 := gq_22.S hs
  have gq_27 := gq_27.S hs
  have gq_32 := gq_32.S hs
  have gq_222 := gq_222.S hs
  have gq_227 := gq_227.S hs
  have gq_232 := gq_232.S hs
  have gq_237 := gq_237.S hs
  have gq_242 := gq_242.S hs
  have gq_247 := gq_247.S hs
  have f_323 : (∀ j, h_321.2.1 q_322 j = 0) ∧ ∀ j, h_321.2.2 q_322 j = none := by rw [eh_321]; exact ⟨fun _ => hx_nw_i, fun _ => hx_nw_r⟩
  refine hk_putrF hx hb hts hC_10 hown hW gy td_10 43 (by decide) rfl kw_1186 ⟨rfl, rfl, rfl⟩ rfl hin rfl (x := (some q_322)) rfl rfl rfl dX10_init_1287 (fun H locs h_324 eh_324 hW hs => ?_)
  have f_5 := (hs.o gy trivial rfl).2.trans f_5
  have f_10 := (hs.o gy trivial rfl).2.trans f_10
  have f_15 := (hs.o gy trivial rfl).2.trans f_15
  have f_20 := (hs.o gy trivial rfl).2.trans f_20
  have f_25 := (hs.o gy trivial rfl).2.trans f_25
  have f_30 := (hs.o gy trivial rfl).2.trans f_30
  have f_35 := (hs.o gy trivial rfl).2.trans f_35
  have f_225 := (hs.o gy trivial rfl).2.trans f_225
  have f_230 := (hs.o gy trivial rfl).2.trans f_230
  have f_235 := (hs.o gy trivial rfl).2.trans f_235
  have f_240 := (hs.o gy trivial rfl).2.trans f_240
  have f_245 := (hs.o gy trivial rfl).2.trans f_245
  have f_250 := (hs.o gy trivial rfl).2.trans f_250
  have f_323 : _ ∧ _ := ⟨fun j => (hs.a gq_322 rfl j).1.trans (f_323.1 j), fun j => (hs.a gq_322 rfl j).2.trans (f_323.2 j)⟩
  have hM := hM.tr (hs.mono (by decide))
  have gy := gy.S hs
  have gq_2 := gq_2.S hs
  have gq_7 := gq_7.S hs
  have gq_12 := gq_12.S hs
  have gq_17 := gq_17.S hs
  have gq_22 := gq_22.S hs
  have gq_27 := gq_27.S hs
  have gq_32 := gq_32.S hs
  have gq_222 := gq_222.S hs
  have gq_227 := gq_227.S hs
  have gq_232 := gq_232.S hs
  have gq_237 := gq_237.S hs
  have gq_242 := gq_242.S hs
  have gq_247 := gq_247.S hs
  have gq_322 := gq_322.S hs
  have f_325 : h_324.2.2 y 43 = (some q_322) := by rw [eh_324]; exact hx_pr_at _ _ _ _
  refine lv_aload_n hx hb dX10_init_1290 rfl (lv_at hl 0 rfl) ?_
  refine lv_bipush (v := 100) hx hb dX10_init_1291 (by decide) ?_
  refine hk_newa hx hb hts hW 79 td_79 (atype := .int) rfl kw_186 (tys := P_ty dA) (t0 := 0) rfl (fun _ => Iff.rfl) rfl (i := (100 : Int32)) (by decide) (Nat.le_of_ble_eq_true rfl) (Nat.le_of_ble_eq_true rfl) (Nat.le_of_ble_eq_true rfl) dX10_init_1293 (fun q_327 H h_326 eh_326 hqq_327 hW hs gq_327 => ?_)
  have f_5 := (hs.o gy trivial rfl).2.trans f_5
  have f_10 := (hs.o gy trivial rfl).2.trans f_10
  have f_15 := (hs.o gy trivial rfl).2.trans f_15
  have f_20 := (hs.o gy trivial rfl).2.trans f_20
  have f_25 := (hs.o gy trivial rfl).2.trans f_25
  have f_30 := (hs.o gy trivial rfl).2.trans f_30
  have f_35 := (hs.o gy trivial rfl).2.trans f_35
  have f_225 := (hs.o gy trivial rfl).2.trans f_225
  have f_230 := (hs.o gy trivial rfl).2.trans f_230
  have f_235 := (hs.o gy trivial rfl).2.trans f_235
  have f_240 := (hs.o gy trivial rfl).2.trans f_240
  have f_245 := (hs.o gy trivial rfl).2.trans f_245
  have f_250 := (hs.o gy trivial rfl).2.trans f_250
  have hM := hM.tr (hs.mono (by decide))
  have gy := gy.S hs
  have gq_2 := gq_2.S hs
  have gq_7 := gq_7.S hs
  have gq_12 := gq_12.S hs
  have gq_17 := gq_17.S hs
  have gq_22 := gq_22.S hs
  have gq_27 := gq_27.S hs
  have gq_32 := gq_32.S hs
  have gq_222 := gq_222.S hs
  have gq_227 := gq_227.S hs
  have gq_232 := gq_232.S hs
  have gq_237 := gq_237.S hs
  have gq_242 := gq_242.S hs
  have gq_247 := gq_247.S hs
  have f_328 : (∀ j, h_326.2.1 q_327 j = 0) ∧ ∀ j, h_326.2.2 q_327 j = none := by rw [eh_326]; exact ⟨fun _ => hx_nw_i, fun _ => hx_nw_r⟩
  refine hk_putrF hx hb hts hC_10 hown hW gy td_10 44 (by decide) rfl kw_1187 ⟨rfl, rfl, rfl⟩ rfl hin rfl (x := (some q_327)) rfl rfl rfl dX10_init_1295 (fun H locs h_329 eh_329 hW hs => ?_)
  have f_5 := (hs.o gy trivial rfl).2.trans f_5
  have f_10 := (hs.o gy trivial rfl).2.trans f_10
  have f_15 := (hs.o gy trivial rfl).2.trans f_15
  have f_20 := (hs.o gy trivial rfl).2.trans f_20
  have f_25 := (hs.o gy trivial rfl).2.trans f_25
  have f_30 := (hs.o gy trivial rfl).2.trans f_30
  have f_35 := (hs.o gy trivial rfl).2.trans f_35
  have f_225 := (hs.o gy trivial rfl).2.trans f_225
  have f_230 := (hs.o gy trivial rfl).2.trans f_230
  have f_235 := (hs.o gy trivial rfl).2.trans f_235
  have f_240 := (hs.o gy trivial rfl).2.trans f_240
  have f_245 := (hs.o gy trivial rfl).2.trans f_245
  have f_250 := (hs.o gy trivial rfl).2.trans f_250
  have f_328 : _ ∧ _ := ⟨fun j => (hs.a gq_327 rfl j).1.trans (f_328.1 j), fun j => (hs.a gq_327 rfl j).2.trans (f_328.2 j)⟩
  have hM := hM.tr (hs.mono (by decide))
  have gy := gy.S hs
  have gq_2 := gq_2.S hs
  have gq_7 := gq_7.S hs
  have gq_12 := gq_12.S hs
  have gq_17 := gq_17.S hs
  have gq_22 := gq_22.S hs
  have gq_27 := gq_27.S hs
  have gq_32 := gq_32.S hs
  have gq_222 := gq_222.S hs
  have gq_227 := gq_227.S hs
  have gq_232 := gq_232.S hs
  have gq_237 := gq_237.S hs
  have gq_242 := gq_242.S hs
  have gq_247 := gq_247.S hs
  have gq_327 := gq_327.S hs
  have f_330 : h_329.2.2 y 44 = (some q_327) := by rw [eh_329]; exact hx_pr_at _ _ _ _
  refine W.widen (k := 31) (n := 5651) (Nat.le_of_ble_eq_true rfl) (Nat.le_of_ble_eq_true rfl) ?_
  exact sg_X10_init_14 l dC dI dA L h sz y q_2 q_7 q_12 q_17 q_22 q_27 q_32 q_222 q_227 q_232 q_237 q_242 q_247 hx hb hml hr hlk hts hown hin hsz (((L1 ++ [q_317]) ++ [q_322]) ++ [q_327]) h_329 _ _ ls hW hM f_5 f_10 f_15 f_20 f_25 f_30 f_35 f_225 f_230 f_235 f_240 f_245 f_250  gy gq_2 gq_7 gq_12 gq_17 gq_22 gq_27 gq_32 gq_222 gq_227 gq_232 gq_237 gq_242 gq_247 hl

set_option maxHeartbeats 4000000 in
set_option maxRecDepth 100000 in
theorem sg_X10_init_12 (l : Launch) (dC : Nat → ClassId) (dI : Nat → Nat → Nat) (dA : Nat → ClassId) (L : List Nat) (h : hx_h) (sz : Nat) (y : Nat) (q_2 q_7 q_12 q_17 q_22 q_27 q_32 q_222 q_227 q_232 q_237 q_242 q_247 : Nat) {p : Program} {e : Env} {s : State} {m : MethodId} {below : List Frame} {meth : Method} {c : Code} (hx : p.tables.exec = Jvm.exec) (hb : c.code = cX10_init) (hml : c.maxLocals = 2) (hr : meth.sig.returnType = none) (hlk : meth.locks = false) (hts : ∀ w ∈ hx_all, w.before ([.ref y] : List Value).toArray s = true) (hown : s.vm.findClass "SmallCourtModel" = some m.cls) (hin : meth.name = "<init>") (hsz : s.heap.size = sz) (L1 : List Nat) (hl1 : hx_h) (H : Heap) (locs : List Loc) (ls : Array Slot) (hW : hx_W P_tb (P_ty dA) (dC, dI) vwCl (hx_A L sz) s.heap L1 hl1 s H locs) (hM : hx_S P_tb [(10, 2), (10, 3), (10, 4), (10, 5), (10, 6), (10, 12), (10, 14), (10, 15), (10, 16), (10, 17), (10, 18), (10, 19), (10, 21), (10, 22), (10, 23), (10, 24), (10, 25), (10, 26), (10, 27), (10, 28), (10, 30), (10, 31), (10, 32), (10, 33), (10, 34), (10, 35), (10, 37), (10, 38), (10, 39), (10, 40), (10, 41), (10, 42), (10, 43), (10, 44), (10, 45), (10, 46), (10, 47), (10, 48), (10, 49), (10, 50), (10, 51), (10, 52), (10, 53), (10, 54), (10, 55), (10, 56), (10, 58), (10, 60), (10, 61), (10, 62), (10, 63), (10, 64), (10, 65), (10, 66), (10, 73), (10, 74), (10, 76), (10, 77), (10, 78), (10, 79), (10, 80), (10, 81), (10, 82), (10, 85), (10, 88), (10, 89), (10, 91), (10, 93), (10, 94), (10, 97), (50, 0), (51, 0), (52, 0), (55, 0), (57, 0)] L h L1 hl1) (f_5 : hl1.2.2 y 2 = some q_2) (f_10 : hl1.2.2 y 3 = some q_7) (f_15 : hl1.2.2 y 4 = some q_12) (f_20 : hl1.2.2 y 5 = some q_17) (f_25 : hl1.2.2 y 6 = some q_22) (f_30 : hl1.2.2 y 12 = some q_27) (f_35 : hl1.2.2 y 15 = some q_32) (f_225 : hl1.2.2 y 21 = some q_222) (f_230 : hl1.2.2 y 22 = some q_227) (f_235 : hl1.2.2 y 23 = some q_232) (f_240 : hl1.2.2 y 24 = some q_237) (f_245 : hl1.2.2 y 25 = some q_242) (f_250 : hl1.2.2 y 26 = some q_247)  (gy : hx_g L1 hl1 y 10) (gq_2 : hx_g L1 hl1 q_2 49) (gq_7 : hx_g L1 hl1 q_7 50) (gq_12 : hx_g L1 hl1 q_12 51) (gq_17 : hx_g L1 hl1 q_17 52) (gq_22 : hx_g L1 hl1 q_22 53) (gq_27 : hx_g L1 hl1 q_27 54) (gq_32 : hx_g L1 hl1 q_32 55) (gq_222 : hx_g L1 hl1 q_222 58) (gq_227 : hx_g L1 hl1 q_227 59) (gq_232 : hx_g L1 hl1 q_232 60) (gq_237 : hx_g L1 hl1 q_237 61) (gq_242 : hx_g L1 hl1 q_242 62) (gq_247 : hx_g L1 hl1 q_247 63) (hl : lv_has ls 2 [(0, .ref y)]) : W p l e ({ frames := 2, cells := 67, slots := 15340, locals := 42 }) s m ([.ref y] : List Value).toArray below meth c H locs 25 5051 (MQ below (va_Qv (fun (u : List Nat × hx_h) => hx_S P_tb [(10, 2), (10, 3), (10, 4), (10, 5), (10, 6), (10, 12), (10, 14), (10, 15), (10, 16), (10, 17), (10, 18), (10, 19), (10, 21), (10, 22), (10, 23), (10, 24), (10, 25), (10, 26), (10, 27), (10, 28), (10, 30), (10, 31), (10, 32), (10, 33), (10, 34), (10, 35), (10, 37), (10, 38), (10, 39), (10, 40), (10, 41), (10, 42), (10, 43), (10, 44), (10, 45), (10, 46), (10, 47), (10, 48), (10, 49), (10, 50), (10, 51), (10, 52), (10, 53), (10, 54), (10, 55), (10, 56), (10, 58), (10, 60), (10, 61), (10, 62), (10, 63), (10, 64), (10, 65), (10, 66), (10, 73), (10, 74), (10, 76), (10, 77), (10, 78), (10, 79), (10, 80), (10, 81), (10, 82), (10, 85), (10, 88), (10, 89), (10, 91), (10, 93), (10, 94), (10, 97), (50, 0), (51, 0), (52, 0), (55, 0), (57, 0)] L h u.1 u.2 ∧ (∃ q, u.2.2.2 y 2 = some q ∧ hx_g u.1 u.2 q 49) ∧ (∃ q, u.2.2.2 y 3 = some q ∧ hx_g u.1 u.2 q 50 ∧ (∀ j, j < 13 → u.2.2.1 q j = P_w1 j)) ∧ (∃ q, u.2.2.2 y 4 = some q ∧ hx_g u.1 u.2 q 51) ∧ (∃ q, u.2.2.2 y 5 = some q ∧ hx_g u.1 u.2 q 52) ∧ (∃ q, u.2.2.2 y 6 = some q ∧ hx_g u.1 u.2 q 53) ∧ (∃ q, u.2.2.2 y 12 = some q ∧ hx_g u.1 u.2 q 54) ∧ (∃ q, u.2.2.2 y 15 = some q ∧ hx_g u.1 u.2 q 55) ∧ (∃ q, u.2.2.2 y 21 = some q ∧ hx_g u.1 u.2 q 58) ∧ (∃ q, u.2.2.2 y 22 = some q ∧ hx_g u.1 u.2 q 59) ∧ (∃ q, u.2.2.2 y 23 = some q ∧ hx_g u.1 u.2 q 60) ∧ (∃ q, u.2.2.2 y 24 = some q ∧ hx_g u.1 u.2 q 61) ∧ (∃ q, u.2.2.2 y 25 = some q ∧ hx_g u.1 u.2 q 62) ∧ (∃ q, u.2.2.2 y 26 = some q ∧ hx_g u.1 u.2 q 63) ∧ (∃ q, u.2.2.2 y 82 = some q ∧ hx_g u.1 u.2 q 108) ∧ (∃ q, u.2.2.2 y 94 = some q ∧ hx_g u.1 u.2 q 114)) (hx_E P_tb (P_ty dA) (dC, dI) vwCl (hx_A L sz)) (hx_A L sz)) ([.ref y] : List Value).toArray s 67 15340 (hx_A L sz)) (F0 m 1250 ls []) := by
  refine lv_aload_n hx hb dX10_init_1250 rfl (lv_at hl 0 rfl) ?_
  refine lv_bipush (v := 100) hx hb dX10_init_1251 (by decide) ?_
  refine hk_newa hx hb hts hW 74 td_74 (atype := .int) rfl kw_186 (tys := P_ty dA) (t0 := 0) rfl (fun _ => Iff.rfl) rfl (i := (100 : Int32)) (by decide) (Nat.le_of_ble_eq_true rfl) (Nat.le_of_ble_eq_true rfl) (Nat.le_of_ble_eq_true rfl) dX10_init_1253 (fun q_302 H h_301 eh_301 hqq_302 hW hs gq_302 => ?_)
  have f_5 := (hs.o gy trivial rfl).2.trans f_5
  have f_10 := (hs.o gy trivial rfl).2.trans f_10
  have f_15 := (hs.o gy trivial rfl).2.trans f_15
  have f_20 := (hs.o gy trivial rfl).2.trans f_20
  have f_25 := (hs.o gy trivial rfl).2.trans f_25
  have f_30 := (hs.o gy trivial rfl).2.trans f_30
  have f_35 := (hs.o gy trivial rfl).2.trans f_35
  have f_225 := (hs.o gy trivial rfl).2.trans f_225
  have f_230 := (hs.o gy trivial rfl).2.trans f_230
  have f_235 := (hs.o gy trivial rfl).2.trans f_235
  have f_240 := (hs.o gy trivial rfl).2.trans f_240
  have f_245 := (hs.o gy trivial rfl).2.trans f_245
  have f_250 := (hs.o gy trivial rfl).2.trans f_250
  have hM := hM.tr (hs.mono (by decide))
  have gy := gy.S hs
  have gq_2 := gq_2.S hs
  have gq_7 := gq_7.S hs
  have gq_12 := gq_12.S hs
  have gq_17 := gq_17.S hs
  have gq_22 := gq_22.S hs
  have gq_27 := gq_27.S hs
  have gq_32 := gq_32.S hs
  have gq_222 := gq_222.S hs
  have gq_227 := gq_227.S hs
  have gq_232 := gq_232.S hs
  have gq_237 := gq_237.S hs
  have gq_242 := gq_242.S hs
  have gq_247 := gq_247.S hs
  have f_303 : (∀ j, h_301.2.1 q_302 j = 0) ∧ ∀ j, h_301.2.2 q_302 j = none := by rw [eh_301]; exact ⟨fun _ => hx_nw_i, fun _ => hx_nw_r⟩
  refine hk_putrF hx hb hts hC_10 hown hW gy td_10 39 (by decide) rfl kw_1182 ⟨rfl, rfl, rfl⟩ rfl hin rfl (x := (some q_302)) rfl rfl rfl dX10_init_1255 (fun H locs h_304 eh_304 hW hs => ?_)
  have f_5 := (hs.o gy trivial rfl).2.trans f_5
  have f_10 := (hs.o gy trivial rfl).2.trans f_10
  have f_15 := (hs.o gy trivial rfl).2.trans f_15
  have f_20 := (hs.o gy trivial rfl).2.trans f_20
  have f_25 := (hs.o gy trivial rfl).2.trans f_25
  have f_30 := (hs.o gy trivial rfl).2.trans f_30
  have f_35 := (hs.o gy trivial rfl).2.trans f_35
  have f_225 := (hs.o gy trivial rfl).2.trans f_225
  have f_230 := (hs.o gy trivial rfl).2.trans f_230
  have f_235 := (hs.o gy trivial rfl).2.trans f_235
  have f_240 := (hs.o gy trivial rfl).2.trans f_240
  have f_245 := (hs.o gy trivial rfl).2.trans f_245
  have f_250 := (hs.o gy trivial rfl).2.trans f_250
  have f_303 : _ ∧ _ := ⟨fun j => (hs.a gq_302 rfl j).1.trans (f_303.1 j), fun j => (hs.a gq_302 rfl j).2.trans (f_303.2 j)⟩
  have hM := hM.tr (hs.mono (by decide))
  have gy := gy.S hs
  have gq_2 := gq_2.S hs
  have gq_7 := gq_7.S hs
  have gq_12 := gq_12.S hs
  have gq_17 := gq_17.S hs
  have gq_22 := gq_22.S hs
  have gq_27 := gq_27.S hs
  have gq_32 := gq_32.S hs
  have gq_222 := gq_222.S hs
  have gq_227 := gq_227.S hs
  have gq_232 := gq_232.S hs
  have gq_237 := gq_237.S hs
  have gq_242 := gq_242.S hs
  have gq_247 := gq_247.S hs
  have gq_302 := gq_302.S hs
  have f_305 : h_304.2.2 y 39 = (some q_302) := by rw [eh_304]; exact hx_pr_at _ _ _ _
  refine lv_aload_n hx hb dX10_init_1258 rfl (lv_at hl 0 rfl) ?_
  refine lv_bipush (v := 100) hx hb dX10_init_1259 (by decide) ?_
  refine hk_newa hx hb hts hW 75 td_75 (atype := .int) rfl kw_186 (tys := P_ty dA) (t0 := 0) rfl (fun _ => Iff.rfl) rfl (i := (100 : Int32)) (by decide) (Nat.le_of_ble_eq_true rfl) (Nat.le_of_ble_eq_true rfl) (Nat.le_of_ble_eq_true rfl) dX10_init_1261 (fun q_307 H h_306 eh_306 hqq_307 hW hs gq_307 => ?_)
  have f_5 := (hs.o gy trivial rfl).2.trans f_5
  have f_10 := (hs.o gy trivial rfl).2.trans f_10
  have f_15 := (hs.o gy trivial rfl).2.trans f_15
  have f_20 := (hs.o gy trivial rfl).2.trans f_20
  have f_25 := (hs.o gy trivial rfl).2.trans f_25
  have f_30 := (hs.o gy trivial rfl).2.trans f_30
  have f_35 := (hs.o gy trivial rfl).2.trans f_35
  have f_225 := (hs.o gy trivial rfl).2.trans f_225
  have f_230 := (hs.o gy trivial rfl).2.trans f_230
  have f_235 := (hs.o gy trivial rfl).2.trans f_235
  have f_240 := (hs.o gy trivial rfl).2.trans f_240
  have f_245 := (hs.o gy trivial rfl).2.trans f_245
  have f_250 := (hs.o gy trivial rfl).2.trans f_250
  have hM := hM.tr (hs.mono (by decide))
  have gy := gy.S hs
  have gq_2 := gq_2.S hs
  have gq_7 := gq_7.S hs
  have gq_12 := gq_12.S hs
  have gq_17 := gq_17.S hs
  have gq_22 := gq_22.S hs
  have gq_27 := gq_27.S hs
  have gq_32 := gq_32.S hs
  have gq_222 := gq_222.S hs
  have gq_227 := gq_227.S hs
  have gq_232 := gq_232.S hs
  have gq_237 := gq_237.S hs
  have gq_242 := gq_242.S hs
  have gq_247 := gq_247.S hs
  have f_308 : (∀ j, h_306.2.1 q_307 j = 0) ∧ ∀ j, h_306.2.2 q_307 j = none := by rw [eh_306]; exact ⟨fun _ => hx_nw_i, fun _ => hx_nw_r⟩
  refine hk_putrF hx hb hts hC_10 hown hW gy td_10 40 (by decide) rfl kw_1183 ⟨rfl, rfl, rfl⟩ rfl hin rfl (x := (some q_307)) rfl rfl rfl dX10_init_1263 (fun H locs h_309 eh_309 hW hs => ?_)
  have f_5 := (hs.o gy trivial rfl).2.trans f_5
  have f_10 := (hs.o gy trivial rfl).2.trans f_10
  have f_15 := (hs.o gy trivial rfl).2.trans f_15
  have f_20 := (hs.o gy trivial rfl).2.trans f_20
  have f_25 := (hs.o gy trivial rfl).2.trans f_25
  have f_30 := (hs.o gy trivial rfl).2.trans f_30
  have f_35 := (hs.o gy trivial rfl).2.trans f_35
  have f_225 := (hs.o gy trivial rfl).2.trans f_225
  have f_230 := (hs.o gy trivial rfl).2.trans f_230
  have f_235 := (hs.o gy trivial rfl).2.trans f_235
  have f_240 := (hs.o gy trivial rfl).2.trans f_240
  have f_245 := (hs.o gy trivial rfl).2.trans f_245
  have f_250 := (hs.o gy trivial rfl).2.trans f_250
  have f_308 : _ ∧ _ := ⟨fun j => (hs.a gq_307 rfl j).1.trans (f_308.1 j), fun j => (hs.a gq_307 rfl j).2.trans (f_308.2 j)⟩
  have hM := hM.tr (hs.mono (by decide))
  have gy := gy.S hs
  have gq_2 := gq_2.S hs
  have gq_7 := gq_7.S hs
  have gq_12 := gq_12.S hs
  have gq_17 := gq_17.S hs
  have gq_22 := gq_22.S hs
  have gq_27 := gq_27.S hs
  have gq_32 := gq_32.S hs
  have gq_222 := gq_222.S hs
  have gq_227 := gq_227.S hs
  have gq_232 := gq_232.S hs
  have gq_237 := gq_237.S hs
  have gq_242 := gq_242.S hs
  have gq_247 := gq_247.S hs
  have gq_307 := gq_307.S hs
  have f_310 : h_309.2.2 y 40 = (some q_307) := by rw [eh_309]; exact hx_pr_at _ _ _ _
  refine lv_aload_n hx hb dX10_init_1266 rfl (lv_at hl 0 rfl) ?_
  refine lv_bipush (v := 100) hx hb dX10_init_1267 (by decide) ?_
  refine hk_newa hx hb hts hW 76 td_76 (atype := .boolean) rfl kw_222 (tys := P_ty dA) (t0 := 2) rfl (fun _ => Iff.rfl) rfl (i := (100 : Int32)) (by decide) (Nat.le_of_ble_eq_true rfl) (Nat.le_of_ble_eq_true rfl) (Nat.le_of_ble_eq_true rfl) dX10_init_1269 (fun q_312 H h_311 eh_311 hqq_312 hW hs gq_312 => ?_)
  have f_5 := (hs.o gy trivial rfl).2.trans f_5
  have f_10 := (hs.o gy trivial rfl).2.trans f_10
  have f_15 := (hs.o gy trivial rfl).2.trans f_15
  have f_20 := (hs.o gy trivial rfl).2.trans f_20
  have f_25 := (hs.o gy trivial rfl).2.trans f_25
  have f_30 := (hs.o gy trivial rfl).2.trans f_30
  have f_35 := (hs.o gy trivial rfl).2.trans f_35
  have f_225 := (hs.o gy trivial rfl).2.trans f_225
  have f_230 := (hs.o gy trivial rfl).2.trans f_230
  have f_235 := (hs.o gy trivial rfl).2.trans f_235
  have f_240 := (hs.o gy trivial rfl).2.trans f_240
  have f_245 := (hs.o gy trivial rfl).2.trans f_245
  have f_250 := (hs.o gy trivial rfl).2.trans f_250
  have hM := hM.tr (hs.mono (by decide))
  have gy := gy.S hs
  have gq_2 := gq_2.S hs
  have gq_7 := gq_7.S hs
  have gq_12 := gq_12.S hs
  have gq_17 := gq_17.S hs
  have gq_22 := gq_22.S hs
  have gq_27 := gq_27.S hs
  have gq_32 := gq_32.S hs
  have gq_222 := gq_222.S hs
  have gq_227 := gq_227.S hs
  have gq_232 := gq_232.S hs
  have gq_237 := gq_237.S hs
  have gq_242 := gq_242.S hs
  have gq_247 := gq_247.S hs
  have f_313 : (∀ j, h_311.2.1 q_312 j = 0) ∧ ∀ j, h_311.2.2 q_312 j = none := by rw [eh_311]; exact ⟨fun _ => hx_nw_i, fun _ => hx_nw_r⟩
  refine hk_putrF hx hb hts hC_10 hown hW gy td_10 41 (by decide) rfl kw_1184 ⟨rfl, rfl, rfl⟩ rfl hin rfl (x := (some q_312)) rfl rfl rfl dX10_init_1271 (fun H locs h_314 eh_314 hW hs => ?_)
  have f_5 := (hs.o gy trivial rfl).2.trans f_5
  have f_10 := (hs.o gy trivial rfl).2.trans f_10
  have f_15 := (hs.o gy trivial rfl).2.trans f_15
  have f_20 := (hs.o gy trivial rfl).2.trans f_20
  have f_25 := (hs.o gy trivial rfl).2.trans f_25
  have f_30 := (hs.o gy trivial rfl).2.trans f_30
  have f_35 := (hs.o gy trivial rfl).2.trans f_35
  have f_225 := (hs.o gy trivial rfl).2.trans f_225
  have f_230 := (hs.o gy trivial rfl).2.trans f_230
  have f_235 := (hs.o gy trivial rfl).2.trans f_235
  have f_240 := (hs.o gy trivial rfl).2.trans f_240
  have f_245 := (hs.o gy trivial rfl).2.trans f_245
  have f_250 := (hs.o gy trivial rfl).2.trans f_250
  have f_313 : _ ∧ _ := ⟨fun j => (hs.a gq_312 rfl j).1.trans (f_313.1 j), fun j => (hs.a gq_312 rfl j).2.trans (f_313.2 j)⟩
  have hM := hM.tr (hs.mono (by decide))
  have gy := gy.S hs
  have gq_2 := gq_2.S hs
  have gq_7 := gq_7.S hs
  have gq_12 := gq_12.S hs
  have gq_17 := gq_17.S hs
  have gq_22 := gq_22.S hs
  have gq_27 := gq_27.S hs
  have gq_32 := gq_32.S hs
  have gq_222 := gq_222.S hs
  have gq_227 := gq_227.S hs
  have gq_232 := gq_232.S hs
  have gq_237 := gq_237.S hs
  have gq_242 := gq_242.S hs
  have gq_247 := gq_247.S hs
  have gq_312 := gq_312.S hs
  have f_315 : h_314.2.2 y 41 = (some q_312) := by rw [eh_314]; exact hx_pr_at _ _ _ _
  refine W.widen (k := 28) (n := 5351) (Nat.le_of_ble_eq_true rfl) (Nat.le_of_ble_eq_true rfl) ?_
  exact sg_X10_init_13 l dC dI dA L h sz y q_2 q_7 q_12 q_17 q_22 q_27 q_32 q_222 q_227 q_232 q_237 q_242 q_247 hx hb hml hr hlk hts hown hin hsz (((L1 ++ [q_302]) ++ [q_307]) ++ [q_312]) h_314 _ _ ls hW hM f_5 f_10 f_15 f_20 f_25 f_30 f_35 f_225 f_230 f_235 f_240 f_245 f_250  gy gq_2 gq_7 gq_12 gq_17 gq_22 gq_27 gq_32 gq_222 gq_227 gq_232 gq_237 gq_242 gq_247 hl

set_option maxHeartbeats 4000000 in
set_option maxRecDepth 100000 in
theorem sg_X10_init_11 (l : Launch) (dC : Nat → ClassId) (dI : Nat → Nat → Nat) (dA : Nat → ClassId) (L : List Nat) (h : hx_h) (sz : Nat) (y : Nat) (q_2 q_7 q_12 q_17 q_22 q_27 q_32 q_222 q_227 q_232 q_237 q_242 q_247 : Nat) {p : Program} {e : Env} {s : State} {m : MethodId} {below : List Frame} {meth : Method} {c : Code} (hx : p.tables.exec = Jvm.exec) (hb : c.code = cX10_init) (hml : c.maxLocals = 2) (hr : meth.sig.returnType = none) (hlk : meth.locks = false) (hts : ∀ w ∈ hx_all, w.before ([.ref y] : List Value).toArray s = true) (hown : s.vm.findClass "SmallCourtModel" = some m.cls) (hin : meth.name = "<init>") (hsz : s.heap.size = sz) (L1 : List Nat) (hl1 : hx_h) (H : Heap) (locs : List Loc) (ls : Array Slot) (hW : hx_W P_tb (P_ty dA) (dC, dI) vwCl (hx_A L sz) s.heap L1 hl1 s H locs) (hM : hx_S P_tb [(10, 2), (10, 3), (10, 4), (10, 5), (10, 6), (10, 12), (10, 14), (10, 15), (10, 16), (10, 17), (10, 18), (10, 19), (10, 21), (10, 22), (10, 23), (10, 24), (10, 25), (10, 26), (10, 27), (10, 28), (10, 30), (10, 31), (10, 32), (10, 33), (10, 34), (10, 35), (10, 37), (10, 38), (10, 39), (10, 40), (10, 41), (10, 42), (10, 43), (10, 44), (10, 45), (10, 46), (10, 47), (10, 48), (10, 49), (10, 50), (10, 51), (10, 52), (10, 53), (10, 54), (10, 55), (10, 56), (10, 58), (10, 60), (10, 61), (10, 62), (10, 63), (10, 64), (10, 65), (10, 66), (10, 73), (10, 74), (10, 76), (10, 77), (10, 78), (10, 79), (10, 80), (10, 81), (10, 82), (10, 85), (10, 88), (10, 89), (10, 91), (10, 93), (10, 94), (10, 97), (50, 0), (51, 0), (52, 0), (55, 0), (57, 0)] L h L1 hl1) (f_5 : hl1.2.2 y 2 = some q_2) (f_10 : hl1.2.2 y 3 = some q_7) (f_15 : hl1.2.2 y 4 = some q_12) (f_20 : hl1.2.2 y 5 = some q_17) (f_25 : hl1.2.2 y 6 = some q_22) (f_30 : hl1.2.2 y 12 = some q_27) (f_35 : hl1.2.2 y 15 = some q_32) (f_225 : hl1.2.2 y 21 = some q_222) (f_230 : hl1.2.2 y 22 = some q_227) (f_235 : hl1.2.2 y 23 = some q_232) (f_240 : hl1.2.2 y 24 = some q_237) (f_245 : hl1.2.2 y 25 = some q_242) (f_250 : hl1.2.2 y 26 = some q_247)  (gy : hx_g L1 hl1 y 10) (gq_2 : hx_g L1 hl1 q_2 49) (gq_7 : hx_g L1 hl1 q_7 50) (gq_12 : hx_g L1 hl1 q_12 51) (gq_17 : hx_g L1 hl1 q_17 52) (gq_22 : hx_g L1 hl1 q_22 53) (gq_27 : hx_g L1 hl1 q_27 54) (gq_32 : hx_g L1 hl1 q_32 55) (gq_222 : hx_g L1 hl1 q_222 58) (gq_227 : hx_g L1 hl1 q_227 59) (gq_232 : hx_g L1 hl1 q_232 60) (gq_237 : hx_g L1 hl1 q_237 61) (gq_242 : hx_g L1 hl1 q_242 62) (gq_247 : hx_g L1 hl1 q_247 63) (hl : lv_has ls 2 [(0, .ref y)]) : W p l e ({ frames := 2, cells := 67, slots := 15340, locals := 42 }) s m ([.ref y] : List Value).toArray below meth c H locs 22 4451 (MQ below (va_Qv (fun (u : List Nat × hx_h) => hx_S P_tb [(10, 2), (10, 3), (10, 4), (10, 5), (10, 6), (10, 12), (10, 14), (10, 15), (10, 16), (10, 17), (10, 18), (10, 19), (10, 21), (10, 22), (10, 23), (10, 24), (10, 25), (10, 26), (10, 27), (10, 28), (10, 30), (10, 31), (10, 32), (10, 33), (10, 34), (10, 35), (10, 37), (10, 38), (10, 39), (10, 40), (10, 41), (10, 42), (10, 43), (10, 44), (10, 45), (10, 46), (10, 47), (10, 48), (10, 49), (10, 50), (10, 51), (10, 52), (10, 53), (10, 54), (10, 55), (10, 56), (10, 58), (10, 60), (10, 61), (10, 62), (10, 63), (10, 64), (10, 65), (10, 66), (10, 73), (10, 74), (10, 76), (10, 77), (10, 78), (10, 79), (10, 80), (10, 81), (10, 82), (10, 85), (10, 88), (10, 89), (10, 91), (10, 93), (10, 94), (10, 97), (50, 0), (51, 0), (52, 0), (55, 0), (57, 0)] L h u.1 u.2 ∧ (∃ q, u.2.2.2 y 2 = some q ∧ hx_g u.1 u.2 q 49) ∧ (∃ q, u.2.2.2 y 3 = some q ∧ hx_g u.1 u.2 q 50 ∧ (∀ j, j < 13 → u.2.2.1 q j = P_w1 j)) ∧ (∃ q, u.2.2.2 y 4 = some q ∧ hx_g u.1 u.2 q 51) ∧ (∃ q, u.2.2.2 y 5 = some q ∧ hx_g u.1 u.2 q 52) ∧ (∃ q, u.2.2.2 y 6 = some q ∧ hx_g u.1 u.2 q 53) ∧ (∃ q, u.2.2.2 y 12 = some q ∧ hx_g u.1 u.2 q 54) ∧ (∃ q, u.2.2.2 y 15 = some q ∧ hx_g u.1 u.2 q 55) ∧ (∃ q, u.2.2.2 y 21 = some q ∧ hx_g u.1 u.2 q 58) ∧ (∃ q, u.2.2.2 y 22 = some q ∧ hx_g u.1 u.2 q 59) ∧ (∃ q, u.2.2.2 y 23 = some q ∧ hx_g u.1 u.2 q 60) ∧ (∃ q, u.2.2.2 y 24 = some q ∧ hx_g u.1 u.2 q 61) ∧ (∃ q, u.2.2.2 y 25 = some q ∧ hx_g u.1 u.2 q 62) ∧ (∃ q, u.2.2.2 y 26 = some q ∧ hx_g u.1 u.2 q 63) ∧ (∃ q, u.2.2.2 y 82 = some q ∧ hx_g u.1 u.2 q 108) ∧ (∃ q, u.2.2.2 y 94 = some q ∧ hx_g u.1 u.2 q 114)) (hx_E P_tb (P_ty dA) (dC, dI) vwCl (hx_A L sz)) (hx_A L sz)) ([.ref y] : List Value).toArray s 67 15340 (hx_A L sz)) (F0 m 1225 ls []) := by
  refine lv_aload_n hx hb dX10_init_1225 rfl (lv_at hl 0 rfl) ?_
  refine lv_sipush (v := 400) hx hb dX10_init_1226 (by decide) ?_
  refine hk_newa hx hb hts hW 71 td_71 (atype := .boolean) rfl kw_222 (tys := P_ty dA) (t0 := 2) rfl (fun _ => Iff.rfl) rfl (i := (400 : Int32)) (by decide) (Nat.le_of_ble_eq_true rfl) (Nat.le_of_ble_eq_true rfl) (Nat.le_of_ble_eq_true rfl) dX10_init_1229 (fun q_287 H h_286 eh_286 hqq_287 hW hs gq_287 => ?_)
  have f_5 := (hs.o gy trivial rfl).2.trans f_5
  have f_10 := (hs.o gy trivial rfl).2.trans f_10
  have f_15 := (hs.o gy trivial rfl).2.trans f_15
  have f_20 := (hs.o gy trivial rfl).2.trans f_20
  have f_25 := (hs.o gy trivial rfl).2.trans f_25
  have f_30 := (hs.o gy trivial rfl).2.trans f_30
  have f_35 := (hs.o gy trivial rfl).2.trans f_35
  have f_225 := (hs.o gy trivial rfl).2.trans f_225
  have f_230 := (hs.o gy trivial rfl).2.trans f_230
  have f_235 := (hs.o gy trivial rfl).2.trans f_235
  have f_240 := (hs.o gy trivial rfl).2.trans f_240
  have f_245 := (hs.o gy trivial rfl).2.trans f_245
  have f_250 := (hs.o gy trivial rfl).2.trans f_250
  have hM := hM.tr (hs.mono (by decide))
  have gy := gy.S hs
  have gq_2 := gq_2.S hs
  have gq_7 := gq_7.S hs
  have gq_12 := gq_12.S hs
  have gq_17 := gq_17.S hs
  have gq_22 := gq_22.S hs
  have gq_27 := gq_27.S hs
  have gq_32 := gq_32.S hs
  have gq_222 := gq_222.S hs
  have gq_227 := gq_227.S hs
  have gq_232 := gq_232.S hs
  have gq_237 := gq_237.S hs
  have gq_242 := gq_242.S hs
  have gq_247 := gq_247.S hs
  have f_288 : (∀ j, h_286.2.1 q_287 j = 0) ∧ ∀ j, h_286.2.2 q_287 j = none := by rw [eh_286]; exact ⟨fun _ => hx_nw_i, fun _ => hx_nw_r⟩
  refine hk_putrF hx hb hts hC_10 hown hW gy td_10 35 (by decide) rfl kw_1178 ⟨rfl, rfl, rfl⟩ rfl hin rfl (x := (some q_287)) rfl rfl rfl dX10_init_1231 (fun H locs h_289 eh_289 hW hs => ?_)
  have f_5 := (hs.o gy trivial rfl).2.trans f_5
  have f_10 := (hs.o gy trivial rfl).2.trans f_10
  have f_15 := (hs.o gy trivial rfl).2.trans f_15
  have f_20 := (hs.o gy trivial rfl).2.trans f_20
  have f_25 := (hs.o gy trivial rfl).2.trans f_25
  have f_30 := (hs.o gy trivial rfl).2.trans f_30
  have f_35 := (hs.o gy trivial rfl).2.trans f_35
  have f_225 := (hs.o gy trivial rfl).2.trans f_225
  have f_230 := (hs.o gy trivial rfl).2.trans f_230
  have f_235 := (hs.o gy trivial rfl).2.trans f_235
  have f_240 := (hs.o gy trivial rfl).2.trans f_240
  have f_245 := (hs.o gy trivial rfl).2.trans f_245
  have f_250 := (hs.o gy trivial rfl).2.trans f_250
  have f_288 : _ ∧ _ := ⟨fun j => (hs.a gq_287 rfl j).1.trans (f_288.1 j), fun j => (hs.a gq_287 rfl j).2.trans (f_288.2 j)⟩
  have hM := hM.tr (hs.mono (by decide))
  have gy := gy.S hs
  have gq_2 := gq_2.S hs
  have gq_7 := gq_7.S hs
  have gq_12 := gq_12.S hs
  have gq_17 := gq_17.S hs
  have gq_22 := gq_22.S hs
  have gq_27 := gq_27.S hs
  have gq_32 := gq_32.S hs
  have gq_222 := gq_222.S hs
  have gq_227 := gq_227.S hs
  have gq_232 := gq_232.S hs
  have gq_237 := gq_237.S hs
  have gq_242 := gq_242.S hs
  have gq_247 := gq_247.S hs
  have gq_287 := gq_287.S hs
  have f_290 : h_289.2.2 y 35 = (some q_287) := by rw [eh_289]; exact hx_pr_at _ _ _ _
  refine lv_aload_n hx hb dX10_init_1234 rfl (lv_at hl 0 rfl) ?_
  refine lv_bipush (v := 100) hx hb dX10_init_1235 (by decide) ?_
  refine hk_newa hx hb hts hW 72 td_72 (atype := .int) rfl kw_186 (tys := P_ty dA) (t0 := 0) rfl (fun _ => Iff.rfl) rfl (i := (100 : Int32)) (by decide) (Nat.le_of_ble_eq_true rfl) (Nat.le_of_ble_eq_true rfl) (Nat.le_of_ble_eq_true rfl) dX10_init_1237 (fun q_292 H h_291 eh_291 hqq_292 hW hs gq_292 => ?_)
  have f_5 := (hs.o gy trivial rfl).2.trans f_5
  have f_10 := (hs.o gy trivial rfl).2.trans f_10
  have f_15 := (hs.o gy trivial rfl).2.trans f_15
  have f_20 := (hs.o gy trivial rfl).2.trans f_20
  have f_25 := (hs.o gy trivial rfl).2.trans f_25
  have f_30 := (hs.o gy trivial rfl).2.trans f_30
  have f_35 := (hs.o gy trivial rfl).2.trans f_35
  have f_225 := (hs.o gy trivial rfl).2.trans f_225
  have f_230 := (hs.o gy trivial rfl).2.trans f_230
  have f_235 := (hs.o gy trivial rfl).2.trans f_235
  have f_240 := (hs.o gy trivial rfl).2.trans f_240
  have f_245 := (hs.o gy trivial rfl).2.trans f_245
  have f_250 := (hs.o gy trivial rfl).2.trans f_250
  have hM := hM.tr (hs.mono (by decide))
  have gy := gy.S hs
  have gq_2 := gq_2.S hs
  have gq_7 := gq_7.S hs
  have gq_12 := gq_12.S hs
  have gq_17 := gq_17.S hs
  have gq_22 := gq_22.S hs
  have gq_27 := gq_27.S hs
  have gq_32 := gq_32.S hs
  have gq_222 := gq_222.S hs
  have gq_227 := gq_227.S hs
  have gq_232 := gq_232.S hs
  have gq_237 := gq_237.S hs
  have gq_242 := gq_242.S hs
  have gq_247 := gq_247.S hs
  have f_293 : (∀ j, h_291.2.1 q_292 j = 0) ∧ ∀ j, h_291.2.2 q_292 j = none := by rw [eh_291]; exact ⟨fun _ => hx_nw_i, fun _ => hx_nw_r⟩
  refine hk_putrF hx hb hts hC_10 hown hW gy td_10 37 (by decide) rfl kw_1180 ⟨rfl, rfl, rfl⟩ rfl hin rfl (x := (some q_292)) rfl rfl rfl dX10_init_1239 (fun H locs h_294 eh_294 hW hs => ?_)
  have f_5 := (hs.o gy trivial rfl).2.trans f_5
  have f_10 := (hs.o gy trivial rfl).2.trans f_10
  have f_15 := (hs.o gy trivial rfl).2.trans f_15
  have f_20 := (hs.o gy trivial rfl).2.trans f_20
  have f_25 := (hs.o gy trivial rfl).2.trans f_25
  have f_30 := (hs.o gy trivial rfl).2.trans f_30
  have f_35 := (hs.o gy trivial rfl).2.trans f_35
  have f_225 := (hs.o gy trivial rfl).2.trans f_225
  have f_230 := (hs.o gy trivial rfl).2.trans f_230
  have f_235 := (hs.o gy trivial rfl).2.trans f_235
  have f_240 := (hs.o gy trivial rfl).2.trans f_240
  have f_245 := (hs.o gy trivial rfl).2.trans f_245
  have f_250 := (hs.o gy trivial rfl).2.trans f_250
  have f_293 : _ ∧ _ := ⟨fun j => (hs.a gq_292 rfl j).1.trans (f_293.1 j), fun j => (hs.a gq_292 rfl j).2.trans (f_293.2 j)⟩
  have hM := hM.tr (hs.mono (by decide))
  have gy := gy.S hs
  have gq_2 := gq_2.S hs
  have gq_7 := gq_7.S hs
  have gq_12 := gq_12.S hs
  have gq_17 := gq_17.S hs
  have gq_22 := gq_22.S hs
  have gq_27 := gq_27.S hs
  have gq_32 := gq_32.S hs
  have gq_222 := gq_222.S hs
  have gq_227 := gq_227.S hs
  have gq_232 := gq_232.S hs
  have gq_237 := gq_237.S hs
  have gq_242 := gq_242.S hs
  have gq_247 := gq_247.S hs
  have gq_292 := gq_292.S hs
  have f_295 : h_294.2.2 y 37 = (some q_292) := by rw [eh_294]; exact hx_pr_at _ _ _ _
  refine lv_aload_n hx hb dX10_init_1242 rfl (lv_at hl 0 rfl) ?_
  refine lv_bipush (v := 100) hx hb dX10_init_1243 (by decide) ?_
  refine hk_newa hx hb hts hW 73 td_73 (atype := .int) rfl kw_186 (tys := P_ty dA) (t0 := 0) rfl (fun _ => Iff.rfl) rfl (i := (100 : Int32)) (by decide) (Nat.le_of_ble_eq_true rfl) (Nat.le_of_ble_eq_true rfl) (Nat.le_of_ble_eq_true rfl) dX10_init_1245 (fun q_297 H h_296 eh_296 hqq_297 hW hs gq_297 => ?_)
  have f_5 := (hs.o gy trivial rfl).2.trans f_5
  have f_10 := (hs.o gy trivial rfl).2.trans f_10
  have f_15 := (hs.o gy trivial rfl).2.trans f_15
  have f_20 := (hs.o gy trivial rfl).2.trans f_20
  have f_25 := (hs.o gy trivial rfl).2.trans f_25
  have f_30 := (hs.o gy trivial rfl).2.trans f_30
  have f_35 := (hs.o gy trivial rfl).2.trans f_35
  have f_225 := (hs.o gy trivial rfl).2.trans f_225
  have f_230 := (hs.o gy trivial rfl).2.trans f_230
  have f_235 := (hs.o gy trivial rfl).2.trans f_235
  have f_240 := (hs.o gy trivial rfl).2.trans f_240
  have f_245 := (hs.o gy trivial rfl).2.trans f_245
  have f_250 := (hs.o gy trivial rfl).2.trans f_250
  have hM := hM.tr (hs.mono (by decide))
  have gy := gy.S hs
  have gq_2 := gq_2.S hs
  have gq_7 := gq_7.S hs
  have gq_12 := gq_12.S hs
  have gq_17 := gq_17.S hs
  have gq_22 := gq_22.S hs
  have gq_27 := gq_27.S hs
  have gq_32 := gq_32.S hs
  have gq_222 := gq_222.S hs
  have gq_227 := gq_227.S hs
  have gq_232 := gq_232.S hs
  have gq_237 := gq_237.S hs
  have gq_242 := gq_242.S hs
  have gq_247 := gq_247.S hs
  have f_298 : (∀ j, h_296.2.1 q_297 j = 0) ∧ ∀ j, h_296.2.2 q_297 j = none := by rw [eh_296]; exact ⟨fun _ => hx_nw_i, fun _ => hx_nw_r⟩
  refine hk_putrF hx hb hts hC_10 hown hW gy td_10 38 (by decide) rfl kw_1181 ⟨rfl, rfl, rfl⟩ rfl hin rfl (x := (some q_297)) rfl rfl rfl dX10_init_1247 (fun H locs h_299 eh_299 hW hs => ?_)
  have f_5 := (hs.o gy trivial rfl).2.trans f_5
  have f_10 := (hs.o gy trivial rfl).2.trans f_10
  have f_15 := (hs.o gy trivial rfl).2.trans f_15
  have f_20 := (hs.o gy trivial rfl).2.trans f_20
  have f_25 := (hs.o gy trivial rfl).2.trans f_25
  have f_30 := (hs.o gy trivial rfl).2.trans f_30
  have f_35 := (hs.o gy trivial rfl).2.trans f_35
  have f_225 := (hs.o gy trivial rfl).2.trans f_225
  have f_230 := (hs.o gy trivial rfl).2.trans f_230
  have f_235 := (hs.o gy trivial rfl).2.trans f_235
  have f_240 := (hs.o gy trivial rfl).2.trans f_240
  have f_245 := (hs.o gy trivial rfl).2.trans f_245
  have f_250 := (hs.o gy trivial rfl).2.trans f_250
  have f_298 : _ ∧ _ := ⟨fun j => (hs.a gq_297 rfl j).1.trans (f_298.1 j), fun j => (hs.a gq_297 rfl j).2.trans (f_298.2 j)⟩
  have hM := hM.tr (hs.mono (by decide))
  have gy := gy.S hs
  have gq_2 := gq_2.S hs
  have gq_7 := gq_7.S hs
  have gq_12 := gq_12.S hs
  have gq_17 := gq_17.S hs
  have gq_22 := gq_22.S hs
  have gq_27 := gq_27.S hs
  have gq_32 := gq_32.S hs
  have gq_222 := gq_222.S hs
  have gq_227 := gq_227.S hs
  have gq_232 := gq_232.S hs
  have gq_237 := gq_237.S hs
  have gq_242 := gq_242.S hs
  have gq_247 := gq_247.S hs
  have gq_297 := gq_297.S hs
  have f_300 : h_299.2.2 y 38 = (some q_297) := by rw [eh_299]; exact hx_pr_at _ _ _ _
  refine W.widen (k := 25) (n := 5051) (Nat.le_of_ble_eq_true rfl) (Nat.le_of_ble_eq_true rfl) ?_
  exact sg_X10_init_12 l dC dI dA L h sz y q_2 q_7 q_12 q_17 q_22 q_27 q_32 q_222 q_227 q_232 q_237 q_242 q_247 hx hb hml hr hlk hts hown hin hsz (((L1 ++ [q_287]) ++ [q_292]) ++ [q_297]) h_299 _ _ ls hW hM f_5 f_10 f_15 f_20 f_25 f_30 f_35 f_225 f_230 f_235 f_240 f_245 f_250  gy gq_2 gq_7 gq_12 gq_17 gq_22 gq_27 gq_32 gq_222 gq_227 gq_232 gq_237 gq_242 gq_247 hl

set_option maxHeartbeats 4000000 in
set_option maxRecDepth 100000 in
theorem sg_X10_init_10 (l : Launch) (dC : Nat → ClassId) (dI : Nat → Nat → Nat) (dA : Nat → ClassId) (L : List Nat) (h : hx_h) (sz : Nat) (y : Nat) (q_2 q_7 q_12 q_17 q_22 q_27 q_32 q_222 q_227 q_232 q_237 q_242 q_247 : Nat) {p : Program} {e : Env} {s : State} {m : MethodId} {below : List Frame} {meth : Method} {c : Code} (hx : p.tables.exec = Jvm.exec) (hb : c.code = cX10_init) (hml : c.maxLocals = 2) (hr : meth.sig.returnType = none) (hlk : meth.locks = false) (hts : ∀ w ∈ hx_all, w.before ([.ref y] : List Value).toArray s = true) (hown : s.vm.findClass "SmallCourtModel" = some m.cls) (hin : meth.name = "<init>") (hsz : s.heap.size = sz) (L1 : List Nat) (hl1 : hx_h) (H : Heap) (locs : List Loc) (ls : Array Slot) (hW : hx_W P_tb (P_ty dA) (dC, dI) vwCl (hx_A L sz) s.heap L1 hl1 s H locs) (hM : hx_S P_tb [(10, 2), (10, 3), (10, 4), (10, 5), (10, 6), (10, 12), (10, 14), (10, 15), (10, 16), (10, 17), (10, 18), (10, 19), (10, 21), (10, 22), (10, 23), (10, 24), (10, 25), (10, 26), (10, 27), (10, 28), (10, 30), (10, 31), (10, 32), (10, 33), (10, 34), (10, 35), (10, 37), (10, 38), (10, 39), (10, 40), (10, 41), (10, 42), (10, 43), (10, 44), (10, 45), (10, 46), (10, 47), (10, 48), (10, 49), (10, 50), (10, 51), (10, 52), (10, 53), (10, 54), (10, 55), (10, 56), (10, 58), (10, 60), (10, 61), (10, 62), (10, 63), (10, 64), (10, 65), (10, 66), (10, 73), (10, 74), (10, 76), (10, 77), (10, 78), (10, 79), (10, 80), (10, 81), (10, 82), (10, 85), (10, 88), (10, 89), (10, 91), (10, 93), (10, 94), (10, 97), (50, 0), (51, 0), (52, 0), (55, 0), (57, 0)] L h L1 hl1) (f_5 : hl1.2.2 y 2 = some q_2) (f_10 : hl1.2.2 y 3 = some q_7) (f_15 : hl1.2.2 y 4 = some q_12) (f_20 : hl1.2.2 y 5 = some q_17) (f_25 : hl1.2.2 y 6 = some q_22) (f_30 : hl1.2.2 y 12 = some q_27) (f_35 : hl1.2.2 y 15 = some q_32) (f_225 : hl1.2.2 y 21 = some q_222) (f_230 : hl1.2.2 y 22 = some q_227) (f_235 : hl1.2.2 y 23 = some q_232) (f_240 : hl1.2.2 y 24 = some q_237) (f_245 : hl1.2.2 y 25 = some q_242) (f_250 : hl1.2.2 y 26 = some q_247)  (gy : hx_g L1 hl1 y 10) (gq_2 : hx_g L1 hl1 q_2 49) (gq_7 : hx_g L1 hl1 q_7 50) (gq_12 : hx_g L1 hl1 q_12 51) (gq_17 : hx_g L1 hl1 q_17 52) (gq_22 : hx_g L1 hl1 q_22 53) (gq_27 : hx_g L1 hl1 q_27 54) (gq_32 : hx_g L1 hl1 q_32 55) (gq_222 : hx_g L1 hl1 q_222 58) (gq_227 : hx_g L1 hl1 q_227 59) (gq_232 : hx_g L1 hl1 q_232 60) (gq_237 : hx_g L1 hl1 q_237 61) (gq_242 : hx_g L1 hl1 q_242 62) (gq_247 : hx_g L1 hl1 q_247 63) (hl : lv_has ls 2 [(0, .ref y)]) : W p l e ({ frames := 2, cells := 67, slots := 15340, locals := 42 }) s m ([.ref y] : List Value).toArray below meth c H locs 19 3251 (MQ below (va_Qv (fun (u : List Nat × hx_h) => hx_S P_tb [(10, 2), (10, 3), (10, 4), (10, 5), (10, 6), (10, 12), (10, 14), (10, 15), (10, 16), (10, 17), (10, 18), (10, 19), (10, 21), (10, 22), (10, 23), (10, 24), (10, 25), (10, 26), (10, 27), (10, 28), (10, 30), (10, 31), (10, 32), (10, 33), (10, 34), (10, 35), (10, 37), (10, 38), (10, 39), (10, 40), (10, 41), (10, 42), (10, 43), (10, 44), (10, 45), (10, 46), (10, 47), (10, 48), (10, 49), (10, 50), (10, 51), (10, 52), (10, 53), (10, 54), (10, 55), (10, 56), (10, 58), (10, 60), (10, 61), (10, 62), (10, 63), (10, 64), (10, 65), (10, 66), (10, 73), (10, 74), (10, 76), (10, 77), (10, 78), (10, 79), (10, 80), (10, 81), (10, 82), (10, 85), (10, 88), (10, 89), (10, 91), (10, 93), (10, 94), (10, 97), (50, 0), (51, 0), (52, 0), (55, 0), (57, 0)] L h u.1 u.2 ∧ (∃ q, u.2.2.2 y 2 = some q ∧ hx_g u.1 u.2 q 49) ∧ (∃ q, u.2.2.2 y 3 = some q ∧ hx_g u.1 u.2 q 50 ∧ (∀ j, j < 13 → u.2.2.1 q j = P_w1 j)) ∧ (∃ q, u.2.2.2 y 4 = some q ∧ hx_g u.1 u.2 q 51) ∧ (∃ q, u.2.2.2 y 5 = some q ∧ hx_g u.1 u.2 q 52) ∧ (∃ q, u.2.2.2 y 6 = some q ∧ hx_g u.1 u.2 q 53) ∧ (∃ q, u.2.2.2 y 12 = some q ∧ hx_g u.1 u.2 q 54) ∧ (∃ q, u.2.2.2 y 15 = some q ∧ hx_g u.1 u.2 q 55) ∧ (∃ q, u.2.2.2 y 21 = some q ∧ hx_g u.1 u.2 q 58) ∧ (∃ q, u.2.2.2 y 22 = some q ∧ hx_g u.1 u.2 q 59) ∧ (∃ q, u.2.2.2 y 23 = some q ∧ hx_g u.1 u.2 q 60) ∧ (∃ q, u.2.2.2 y 24 = some q ∧ hx_g u.1 u.2 q 61) ∧ (∃ q, u.2.2.2 y 25 = some q ∧ hx_g u.1 u.2 q 62) ∧ (∃ q, u.2.2.2 y 26 = some q ∧ hx_g u.1 u.2 q 63) ∧ (∃ q, u.2.2.2 y 82 = some q ∧ hx_g u.1 u.2 q 108) ∧ (∃ q, u.2.2.2 y 94 = some q ∧ hx_g u.1 u.2 q 114)) (hx_E P_tb (P_ty dA) (dC, dI) vwCl (hx_A L sz)) (hx_A L sz)) ([.ref y] : List Value).toArray s 67 15340 (hx_A L sz)) (F0 m 1198 ls []) := by
  refine lv_aload_n hx hb dX10_init_1198 rfl (lv_at hl 0 rfl) ?_
  refine lv_sipush (v := 400) hx hb dX10_init_1199 (by decide) ?_
  refine hk_newa hx hb hts hW 68 td_68 (atype := .int) rfl kw_186 (tys := P_ty dA) (t0 := 0) rfl (fun _ => Iff.rfl) rfl (i := (400 : Int32)) (by decide) (Nat.le_of_ble_eq_true rfl) (Nat.le_of_ble_eq_true rfl) (Nat.le_of_ble_eq_true rfl) dX10_init_1202 (fun q_272 H h_271 eh_271 hqq_272 hW hs gq_272 => ?_)
  have f_5 := (hs.o gy trivial rfl).2.trans f_5
  have f_10 := (hs.o gy trivial rfl).2.trans f_10
  have f_15 := (hs.o gy trivial rfl).2.trans f_15
  have f_20 := (hs.o gy trivial rfl).2.trans f_20
  have f_25 := (hs.o gy trivial rfl).2.trans f_25
  have f_30 := (hs.o gy trivial rfl).2.trans f_30
  have f_35 := (hs.o gy trivial rfl).2.trans f_35
  have f_225 := (hs.o gy trivial rfl).2.trans f_225
  have f_230 := (hs.o gy trivial rfl).2.trans f_230
  have f_235 := (hs.o gy trivial rfl).2.trans f_235
  have f_240 := (hs.o gy trivial rfl).2.trans f_240
  have f_245 := (hs.o gy trivial rfl).2.trans f_245
  have f_250 := (hs.o gy trivial rfl).2.trans f_250
  have hM := hM.tr (hs.mono (by decide))
  have gy := gy.S hs
  have gq_2 := gq_2.S hs
  have gq_7 := gq_7.S hs
  have gq_12 := gq_12.S hs
  have gq_17 := gq_17.S hs
  have gq_22 := gq_22.S hs
  have gq_27 := gq_27.S hs
  have gq_32 := gq_32.S hs
  have gq_222 := gq_222.S hs
  have gq_227 := gq_227.S hs
  have gq_232 := gq_232.S hs
  have gq_237 := gq_237.S hs
  have gq_242 := gq_242.S hs
  have gq_247 := gq_247.S hs
  have f_273 : (∀ j, h_271.2.1 q_272 j = 0) ∧ ∀ j, h_271.2.2 q_272 j = none := by rw [eh_271]; exact ⟨fun _ => hx_nw_i, fun _ => hx_nw_r⟩
  refine hk_putrF hx hb hts hC_10 hown hW gy td_10 32 (by decide) rfl kw_1175 ⟨rfl, rfl, rfl⟩ rfl hin rfl (x := (some q_272)) rfl rfl rfl dX10_init_1204 (fun H locs h_274 eh_274 hW hs => ?_)
  have f_5 := (hs.o gy trivial rfl).2.trans f_5
  have f_10 := (hs.o gy trivial rfl).2.trans f_10
  have f_15 := (hs.o gy trivial rfl).2.trans f_15
  have f_20 := (hs.o gy trivial rfl).2.trans f_20
  have f_25 := (hs.o gy trivial rfl).2.trans f_25
  have f_30 := (hs.o gy trivial rfl).2.trans f_30
  have f_35 := (hs.o gy trivial rfl).2.trans f_35
  have f_225 := (hs.o gy trivial rfl).2.trans f_225
  have f_230 := (hs.o gy trivial rfl).2.trans f_230
  have f_235 := (hs.o gy trivial rfl).2.trans f_235
  have f_240 := (hs.o gy trivial rfl).2.trans f_240
  have f_245 := (hs.o gy trivial rfl).2.trans f_245
  have f_250 := (hs.o gy trivial rfl).2.trans f_250
  have f_273 : _ ∧ _ := ⟨fun j => (hs.a gq_272 rfl j).1.trans (f_273.1 j), fun j => (hs.a gq_272 rfl j).2.trans (f_273.2 j)⟩
  have hM := hM.tr (hs.mono (by decide))
  have gy := gy.S hs
  have gq_2 := gq_2.S hs
  have gq_7 := gq_7.S hs
  have gq_12 := gq_12.S hs
  have gq_17 := gq_17.S hs
  have gq_22 := gq_22.S hs
  have gq_27 := gq_27.S hs
  have gq_32 := gq_32.S hs
  have gq_222 := gq_222.S hs
  have gq_227 := gq_227.S hs
  have gq_232 := gq_232.S hs
  have gq_237 := gq_237.S hs
  have gq_242 := gq_242.S hs
  have gq_247 := gq_247.S hs
  have gq_272 := gq_272.S hs
  have f_275 : h_274.2.2 y 32 = (some q_272) := by rw [eh_274]; exact hx_pr_at _ _ _ _
  refine lv_aload_n hx hb dX10_init_1207 rfl (lv_at hl 0 rfl) ?_
  refine lv_sipush (v := 400) hx hb dX10_init_1208 (by decide) ?_
  refine hk_newa hx hb hts hW 69 td_69 (atype := .int) rfl kw_186 (tys := P_ty dA) (t0 := 0) rfl (fun _ => Iff.rfl) rfl (i := (400 : Int32)) (by decide) (Nat.le_of_ble_eq_true rfl) (Nat.le_of_ble_eq_true rfl) (Nat.le_of_ble_eq_true rfl) dX10_init_1211 (fun q_277 H h_276 eh_276 hqq_277 hW hs gq_277 => ?_)
  have f_5 := (hs.o gy trivial rfl).2.trans f_5
  have f_10 := (hs.o gy trivial rfl).2.trans f_10
  have f_15 := (hs.o gy trivial rfl).2.trans f_15
  have f_20 := (hs.o gy trivial rfl).2.trans f_20
  have f_25 := (hs.o gy trivial rfl).2.trans f_25
  have f_30 := (hs.o gy trivial rfl).2.trans f_30
  have f_35 := (hs.o gy trivial rfl).2.trans f_35
  have f_225 := (hs.o gy trivial rfl).2.trans f_225
  have f_230 := (hs.o gy trivial rfl).2.trans f_230
  have f_235 := (hs.o gy trivial rfl).2.trans f_235
  have f_240 := (hs.o gy trivial rfl).2.trans f_240
  have f_245 := (hs.o gy trivial rfl).2.trans f_245
  have f_250 := (hs.o gy trivial rfl).2.trans f_250
  have hM := hM.tr (hs.mono (by decide))
  have gy := gy.S hs
  have gq_2 := gq_2.S hs
  have gq_7 := gq_7.S hs
  have gq_12 := gq_12.S hs
  have gq_17 := gq_17.S hs
  have gq_22 := gq_22.S hs
  have gq_27 := gq_27.S hs
  have gq_32 := gq_32.S hs
  have gq_222 := gq_222.S hs
  have gq_227 := gq_227.S hs
  have gq_232 := gq_232.S hs
  have gq_237 := gq_237.S hs
  have gq_242 := gq_242.S hs
  have gq_247 := gq_247.S hs
  have f_278 : (∀ j, h_276.2.1 q_277 j = 0) ∧ ∀ j, h_276.2.2 q_277 j = none := by rw [eh_276]; exact ⟨fun _ => hx_nw_i, fun _ => hx_nw_r⟩
  refine hk_putrF hx hb hts hC_10 hown hW gy td_10 33 (by decide) rfl kw_1176 ⟨rfl, rfl, rfl⟩ rfl hin rfl (x := (some q_277)) rfl rfl rfl dX10_init_1213 (fun H locs h_279 eh_279 hW hs => ?_)
  have f_5 := (hs.o gy trivial rfl).2.trans f_5
  have f_10 := (hs.o gy trivial rfl).2.trans f_10
  have f_15 := (hs.o gy trivial rfl).2.trans f_15
  have f_20 := (hs.o gy trivial rfl).2.trans f_20
  have f_25 := (hs.o gy trivial rfl).2.trans f_25
  have f_30 := (hs.o gy trivial rfl).2.trans f_30
  have f_35 := (hs.o gy trivial rfl).2.trans f_35
  have f_225 := (hs.o gy trivial rfl).2.trans f_225
  have f_230 := (hs.o gy trivial rfl).2.trans f_230
  have f_235 := (hs.o gy trivial rfl).2.trans f_235
  have f_240 := (hs.o gy trivial rfl).2.trans f_240
  have f_245 := (hs.o gy trivial rfl).2.trans f_245
  have f_250 := (hs.o gy trivial rfl).2.trans f_250
  have f_278 : _ ∧ _ := ⟨fun j => (hs.a gq_277 rfl j).1.trans (f_278.1 j), fun j => (hs.a gq_277 rfl j).2.trans (f_278.2 j)⟩
  have hM := hM.tr (hs.mono (by decide))
  have gy := gy.S hs
  have gq_2 := gq_2.S hs
  have gq_7 := gq_7.S hs
  have gq_12 := gq_12.S hs
  have gq_17 := gq_17.S hs
  have gq_22 := gq_22.S hs
  have gq_27 := gq_27.S hs
  have gq_32 := gq_32.S hs
  have gq_222 := gq_222.S hs
  have gq_227 := gq_227.S hs
  have gq_232 := gq_232.S hs
  have gq_237 := gq_237.S hs
  have gq_242 := gq_242.S hs
  have gq_247 := gq_247.S hs
  have gq_277 := gq_277.S hs
  have f_280 : h_279.2.2 y 33 = (some q_277) := by rw [eh_279]; exact hx_pr_at _ _ _ _
  refine lv_aload_n hx hb dX10_init_1216 rfl (lv_at hl 0 rfl) ?_
  refine lv_sipush (v := 400) hx hb dX10_init_1217 (by decide) ?_
  refine hk_newa hx hb hts hW 70 td_70 (atype := .int) rfl kw_186 (tys := P_ty dA) (t0 := 0) rfl (fun _ => Iff.rfl) rfl (i := (400 : Int32)) (by decide) (Nat.le_of_ble_eq_true rfl) (Nat.le_of_ble_eq_true rfl) (Nat.le_of_ble_eq_true rfl) dX10_init_1220 (fun q_282 H h_281 eh_281 hqq_282 hW hs gq_282 => ?_)
  have f_5 := (hs.o gy trivial rfl).2.trans f_5
  have f_10 := (hs.o gy trivial rfl).2.trans f_10
  have f_15 := (hs.o gy trivial rfl).2.trans f_15
  have f_20 := (hs.o gy trivial rfl).2.trans f_20
  have f_25 := (hs.o gy trivial rfl).2.trans f_25
  have f_30 := (hs.o gy trivial rfl).2.trans f_30
  have f_35 := (hs.o gy trivial rfl).2.trans f_35
  have f_225 := (hs.o gy trivial rfl).2.trans f_225
  have f_230 := (hs.o gy trivial rfl).2.trans f_230
  have f_235 := (hs.o gy trivial rfl).2.trans f_235
  have f_240 := (hs.o gy trivial rfl).2.trans f_240
  have f_245 := (hs.o gy trivial rfl).2.trans f_245
  have f_250 := (hs.o gy trivial rfl).2.trans f_250
  have hM := hM.tr (hs.mono (by decide))
  have gy := gy.S hs
  have gq_2 := gq_2.S hs
  have gq_7 := gq_7.S hs
  have gq_12 := gq_12.S hs
  have gq_17 := gq_17.S hs
  have gq_22 := gq_22.S hs
  have gq_27 := gq_27.S hs
  have gq_32 := gq_32.S hs
  have gq_222 := gq_222.S hs
  have gq_227 := gq_227.S hs
  have gq_232 := gq_232.S hs
  have gq_237 := gq_237.S hs
  have gq_242 := gq_242.S hs
  have gq_247 := gq_247.S hs
  have f_283 : (∀ j, h_281.2.1 q_282 j = 0) ∧ ∀ j, h_281.2.2 q_282 j = none := by rw [eh_281]; exact ⟨fun _ => hx_nw_i, fun _ => hx_nw_r⟩
  refine hk_putrF hx hb hts hC_10 hown hW gy td_10 34 (by decide) rfl kw_1177 ⟨rfl, rfl, rfl⟩ rfl hin rfl (x := (some q_282)) rfl rfl rfl dX10_init_1222 (fun H locs h_284 eh_284 hW hs => ?_)
  have f_5 := (hs.o gy trivial rfl).2.trans f_5
  have f_10 := (hs.o gy trivial rfl).2.trans f_10
  have f_15 := (hs.o gy trivial rfl).2.trans f_15
  have f_20 := (hs.o gy trivial rfl).2.trans f_20
  have f_25 := (hs.o gy trivial rfl).2.trans f_25
  have f_30 := (hs.o gy trivial rfl).2.trans f_30
  have f_35 := (hs.o gy trivial rfl).2.trans f_35
  have f_225 := (hs.o gy trivial rfl).2.trans f_225
  have f_230 := (hs.o gy trivial rfl).2.trans f_230
  have f_235 := (hs.o gy trivial rfl).2.trans f_235
  have f_240 := (hs.o gy trivial rfl).2.trans f_240
  have f_245 := (hs.o gy trivial rfl).2.trans f_245
  have f_250 := (hs.o gy trivial rfl).2.trans f_250
  have f_283 : _ ∧ _ := ⟨fun j => (hs.a gq_282 rfl j).1.trans (f_283.1 j), fun j => (hs.a gq_282 rfl j).2.trans (f_283.2 j)⟩
  have hM := hM.tr (hs.mono (by decide))
  have gy := gy.S hs
  have gq_2 := gq_2.S hs
  have gq_7 := gq_7.S hs
  have gq_12 := gq_12.S hs
  have gq_17 := gq_17.S hs
  have gq_22 := gq_22.S hs
  have gq_27 := gq_27.S hs
  have gq_32 := gq_32.S hs
  have gq_222 := gq_222.S hs
  have gq_227 := gq_227.S hs
  have gq_232 := gq_232.S hs
  have gq_237 := gq_237.S hs
  have gq_242 := gq_242.S hs
  have gq_247 := gq_247.S hs
  have gq_282 := gq_282.S hs
  have f_285 : h_284.2.2 y 34 = (some q_282) := by rw [eh_284]; exact hx_pr_at _ _ _ _
  refine W.widen (k := 22) (n := 4451) (Nat.le_of_ble_eq_true rfl) (Nat.le_of_ble_eq_true rfl) ?_
  exact sg_X10_init_11 l dC dI dA L h sz y q_2 q_7 q_12 q_17 q_22 q_27 q_32 q_222 q_227 q_232 q_237 q_242 q_247 hx hb hml hr hlk hts hown hin hsz (((L1 ++ [q_272]) ++ [q_277]) ++ [q_282]) h_284 _ _ ls hW hM f_5 f_10 f_15 f_20 f_25 f_30 f_35 f_225 f_230 f_235 f_240 f_245 f_250  gy gq_2 gq_7 gq_12 gq_17 gq_22 gq_27 gq_32 gq_222 gq_227 gq_232 gq_237 gq_242 gq_247 hl

set_option maxHeartbeats 4000000 in
set_option maxRecDepth 100000 in
theorem sg_X10_init_9 (l : Launch) (dC : Nat → ClassId) (dI : Nat → Nat → Nat) (dA : Nat → ClassId) (L : List Nat) (h : hx_h) (sz : Nat) (y : Nat) (q_2 q_7 q_12 q_17 q_22 q_27 q_32 q_222 q_227 q_232 q_237 q_242 q_247 : Nat) {p : Program} {e : Env} {s : State} {m : MethodId} {below : List Frame} {meth : Method} {c : Code} (hx : p.tables.exec = Jvm.exec) (hb : c.code = cX10_init) (hml : c.maxLocals = 2) (hr : meth.sig.returnType = none) (hlk : meth.locks = false) (hts : ∀ w ∈ hx_all, w.before ([.ref y] : List Value).toArray s = true) (hown : s.vm.findClass "SmallCourtModel" = some m.cls) (hin : meth.name = "<init>") (hsz : s.heap.size = sz) (L1 : List Nat) (hl1 : hx_h) (H : Heap) (locs : List Loc) (ls : Array Slot) (hW : hx_W P_tb (P_ty dA) (dC, dI) vwCl (hx_A L sz) s.heap L1 hl1 s H locs) (hM : hx_S P_tb [(10, 2), (10, 3), (10, 4), (10, 5), (10, 6), (10, 12), (10, 14), (10, 15), (10, 16), (10, 17), (10, 18), (10, 19), (10, 21), (10, 22), (10, 23), (10, 24), (10, 25), (10, 26), (10, 27), (10, 28), (10, 30), (10, 31), (10, 32), (10, 33), (10, 34), (10, 35), (10, 37), (10, 38), (10, 39), (10, 40), (10, 41), (10, 42), (10, 43), (10, 44), (10, 45), (10, 46), (10, 47), (10, 48), (10, 49), (10, 50), (10, 51), (10, 52), (10, 53), (10, 54), (10, 55), (10, 56), (10, 58), (10, 60), (10, 61), (10, 62), (10, 63), (10, 64), (10, 65), (10, 66), (10, 73), (10, 74), (10, 76), (10, 77), (10, 78), (10, 79), (10, 80), (10, 81), (10, 82), (10, 85), (10, 88), (10, 89), (10, 91), (10, 93), (10, 94), (10, 97), (50, 0), (51, 0), (52, 0), (55, 0), (57, 0)] L h L1 hl1) (f_5 : hl1.2.2 y 2 = some q_2) (f_10 : hl1.2.2 y 3 = some q_7) (f_15 : hl1.2.2 y 4 = some q_12) (f_20 : hl1.2.2 y 5 = some q_17) (f_25 : hl1.2.2 y 6 = some q_22) (f_30 : hl1.2.2 y 12 = some q_27) (f_35 : hl1.2.2 y 15 = some q_32) (f_225 : hl1.2.2 y 21 = some q_222) (f_230 : hl1.2.2 y 22 = some q_227) (f_235 : hl1.2.2 y 23 = some q_232) (f_240 : hl1.2.2 y 24 = some q_237) (f_245 : hl1.2.2 y 25 = some q_242) (f_250 : hl1.2.2 y 26 = some q_247)  (gy : hx_g L1 hl1 y 10) (gq_2 : hx_g L1 hl1 q_2 49) (gq_7 : hx_g L1 hl1 q_7 50) (gq_12 : hx_g L1 hl1 q_12 51) (gq_17 : hx_g L1 hl1 q_17 52) (gq_22 : hx_g L1 hl1 q_22 53) (gq_27 : hx_g L1 hl1 q_27 54) (gq_32 : hx_g L1 hl1 q_32 55) (gq_222 : hx_g L1 hl1 q_222 58) (gq_227 : hx_g L1 hl1 q_227 59) (gq_232 : hx_g L1 hl1 q_232 60) (gq_237 : hx_g L1 hl1 q_237 61) (gq_242 : hx_g L1 hl1 q_242 62) (gq_247 : hx_g L1 hl1 q_247 63) (hl : lv_has ls 2 [(0, .ref y)]) : W p l e ({ frames := 2, cells := 67, slots := 15340, locals := 42 }) s m ([.ref y] : List Value).toArray below meth c H locs 16 2411 (MQ below (va_Qv (fun (u : List Nat × hx_h) => hx_S P_tb [(10, 2), (10, 3), (10, 4), (10, 5), (10, 6), (10, 12), (10, 14), (10, 15), (10, 16), (10, 17), (10, 18), (10, 19), (10, 21), (10, 22), (10, 23), (10, 24), (10, 25), (10, 26), (10, 27), (10, 28), (10, 30), (10, 31), (10, 32), (10, 33), (10, 34), (10, 35), (10, 37), (10, 38), (10, 39), (10, 40), (10, 41), (10, 42), (10, 43), (10, 44), (10, 45), (10, 46), (10, 47), (10, 48), (10, 49), (10, 50), (10, 51), (10, 52), (10, 53), (10, 54), (10, 55), (10, 56), (10, 58), (10, 60), (10, 61), (10, 62), (10, 63), (10, 64), (10, 65), (10, 66), (10, 73), (10, 74), (10, 76), (10, 77), (10, 78), (10, 79), (10, 80), (10, 81), (10, 82), (10, 85), (10, 88), (10, 89), (10, 91), (10, 93), (10, 94), (10, 97), (50, 0), (51, 0), (52, 0), (55, 0), (57, 0)] L h u.1 u.2 ∧ (∃ q, u.2.2.2 y 2 = some q ∧ hx_g u.1 u.2 q 49) ∧ (∃ q, u.2.2.2 y 3 = some q ∧ hx_g u.1 u.2 q 50 ∧ (∀ j, j < 13 → u.2.2.1 q j = P_w1 j)) ∧ (∃ q, u.2.2.2 y 4 = some q ∧ hx_g u.1 u.2 q 51) ∧ (∃ q, u.2.2.2 y 5 = some q ∧ hx_g u.1 u.2 q 52) ∧ (∃ q, u.2.2.2 y 6 = some q ∧ hx_g u.1 u.2 q 53) ∧ (∃ q, u.2.2.2 y 12 = some q ∧ hx_g u.1 u.2 q 54) ∧ (∃ q, u.2.2.2 y 15 = some q ∧ hx_g u.1 u.2 q 55) ∧ (∃ q, u.2.2.2 y 21 = some q ∧ hx_g u.1 u.2 q 58) ∧ (∃ q, u.2.2.2 y 22 = some q ∧ hx_g u.1 u.2 q 59) ∧ (∃ q, u.2.2.2 y 23 = some q ∧ hx_g u.1 u.2 q 60) ∧ (∃ q, u.2.2.2 y 24 = some q ∧ hx_g u.1 u.2 q 61) ∧ (∃ q, u.2.2.2 y 25 = some q ∧ hx_g u.1 u.2 q 62) ∧ (∃ q, u.2.2.2 y 26 = some q ∧ hx_g u.1 u.2 q 63) ∧ (∃ q, u.2.2.2 y 82 = some q ∧ hx_g u.1 u.2 q 108) ∧ (∃ q, u.2.2.2 y 94 = some q ∧ hx_g u.1 u.2 q 114)) (hx_E P_tb (P_ty dA) (dC, dI) vwCl (hx_A L sz)) (hx_A L sz)) ([.ref y] : List Value).toArray s 67 15340 (hx_A L sz)) (F0 m 1172 ls []) := by
  refine lv_aload_n hx hb dX10_init_1172 rfl (lv_at hl 0 rfl) ?_
  refine lv_bipush (v := 40) hx hb dX10_init_1173 (by decide) ?_
  refine hk_newa hx hb hts hW 65 td_65 (atype := .boolean) rfl kw_222 (tys := P_ty dA) (t0 := 2) rfl (fun _ => Iff.rfl) rfl (i := (40 : Int32)) (by decide) (Nat.le_of_ble_eq_true rfl) (Nat.le_of_ble_eq_true rfl) (Nat.le_of_ble_eq_true rfl) dX10_init_1175 (fun q_257 H h_256 eh_256 hqq_257 hW hs gq_257 => ?_)
  have f_5 := (hs.o gy trivial rfl).2.trans f_5
  have f_10 := (hs.o gy trivial rfl).2.trans f_10
  have f_15 := (hs.o gy trivial rfl).2.trans f_15
  have f_20 := (hs.o gy trivial rfl).2.trans f_20
  have f_25 := (hs.o gy trivial rfl).2.trans f_25
  have f_30 := (hs.o gy trivial rfl).2.trans f_30
  have f_35 := (hs.o gy trivial rfl).2.trans f_35
  have f_225 := (hs.o gy trivial rfl).2.trans f_225
  have f_230 := (hs.o gy trivial rfl).2.trans f_230
  have f_235 := (hs.o gy trivial rfl).2.trans f_235
  have f_240 := (hs.o gy trivial rfl).2.trans f_240
  have f_245 := (hs.o gy trivial rfl).2.trans f_245
  have f_250 := (hs.o gy trivial rfl).2.trans f_250
  have hM := hM.tr (hs.mono (by decide))
  have gy := gy.S hs
  have gq_2 := gq_2.S hs
  have gq_7 := gq_7.S hs
  have gq_12 := gq_12.S hs
  have gq_17 := gq_17.S hs
  have gq_22 := gq_22.S hs
  have gq_27 := gq_27.S hs
  have gq_32 := gq_32.S hs
  have gq_222 := gq_222.S hs
  have gq_227 := gq_227.S hs
  have gq_232 := gq_232.S hs
  have gq_237 := gq_237.S hs
  have gq_242 := gq_242.S hs
  have gq_247 := gq_247.S hs
  have f_258 : (∀ j, h_256.2.1 q_257 j = 0) ∧ ∀ j, h_256.2.2 q_257 j = none := by rw [eh_256]; exact ⟨fun _ => hx_nw_i, fun _ => hx_nw_r⟩
  refine hk_putrF hx hb hts hC_10 hown hW gy td_10 28 (by decide) rfl kw_1171 ⟨rfl, rfl, rfl⟩ rfl hin rfl (x := (some q_257)) rfl rfl rfl dX10_init_1177 (fun H locs h_259 eh_259 hW hs => ?_)
  have f_5 := (hs.o gy trivial rfl).2.trans f_5
  have f_10 := (hs.o gy trivial rfl).2.trans f_10
  have f_15 := (hs.o gy trivial rfl).2.trans f_15
  have f_20 := (hs.o gy trivial rfl).2.trans f_20
  have f_25 := (hs.o gy trivial rfl).2.trans f_25
  have f_30 := (hs.o gy trivial rfl).2.trans f_30
  have f_35 := (hs.o gy trivial rfl).2.trans f_35
  have f_225 := (hs.o gy trivial rfl).2.trans f_225
  have f_230 := (hs.o gy trivial rfl).2.trans f_230
  have f_235 := (hs.o gy trivial rfl).2.trans f_235
  have f_240 := (hs.o gy trivial rfl).2.trans f_240
  have f_245 := (hs.o gy trivial rfl).2.trans f_245
  have f_250 := (hs.o gy trivial rfl).2.trans f_250
  have f_258 : _ ∧ _ := ⟨fun j => (hs.a gq_257 rfl j).1.trans (f_258.1 j), fun j => (hs.a gq_257 rfl j).2.trans (f_258.2 j)⟩
  have hM := hM.tr (hs.mono (by decide))
  have gy := gy.S hs
  have gq_2 := gq_2.S hs
  have gq_7 := gq_7.S hs
  have gq_12 := gq_12.S hs
  have gq_17 := gq_17.S hs
  have gq_22 := gq_22.S hs
  have gq_27 := gq_27.S hs
  have gq_32 := gq_32.S hs
  have gq_222 := gq_222.S hs
  have gq_227 := gq_227.S hs
  have gq_232 := gq_232.S hs
  have gq_237 := gq_237.S hs
  have gq_242 := gq_242.S hs
  have gq_247 := gq_247.S hs
  have gq_257 := gq_257.S hs
  have f_260 : h_259.2.2 y 28 = (some q_257) := by rw [eh_259]; exact hx_pr_at _ _ _ _
  refine lv_aload_n hx hb dX10_init_1180 rfl (lv_at hl 0 rfl) ?_
  refine lv_sipush (v := 400) hx hb dX10_init_1181 (by decide) ?_
  refine hk_newa hx hb hts hW 66 td_66 (atype := .int) rfl kw_186 (tys := P_ty dA) (t0 := 0) rfl (fun _ => Iff.rfl) rfl (i := (400 : Int32)) (by decide) (Nat.le_of_ble_eq_true rfl) (Nat.le_of_ble_eq_true rfl) (Nat.le_of_ble_eq_true rfl) dX10_init_1184 (fun q_262 H h_261 eh_261 hqq_262 hW hs gq_262 => ?_)
  have f_5 := (hs.o gy trivial rfl).2.trans f_5
  have f_10 := (hs.o gy trivial rfl).2.trans f_10
  have f_15 := (hs.o gy trivial rfl).2.trans f_15
  have f_20 := (hs.o gy trivial rfl).2.trans f_20
  have f_25 := (hs.o gy trivial rfl).2.trans f_25
  have f_30 := (hs.o gy trivial rfl).2.trans f_30
  have f_35 := (hs.o gy trivial rfl).2.trans f_35
  have f_225 := (hs.o gy trivial rfl).2.trans f_225
  have f_230 := (hs.o gy trivial rfl).2.trans f_230
  have f_235 := (hs.o gy trivial rfl).2.trans f_235
  have f_240 := (hs.o gy trivial rfl).2.trans f_240
  have f_245 := (hs.o gy trivial rfl).2.trans f_245
  have f_250 := (hs.o gy trivial rfl).2.trans f_250
  have hM := hM.tr (hs.mono (by decide))
  have gy := gy.S hs
  have gq_2 := gq_2.S hs
  have gq_7 := gq_7.S hs
  have gq_12 := gq_12.S hs
  have gq_17 := gq_17.S hs
  have gq_22 := gq_22.S hs
  have gq_27 := gq_27.S hs
  have gq_32 := gq_32.S hs
  have gq_222 := gq_222.S hs
  have gq_227 := gq_227.S hs
  have gq_232 := gq_232.S hs
  have gq_237 := gq_237.S hs
  have gq_242 := gq_242.S hs
  have gq_247 := gq_247.S hs
  have f_263 : (∀ j, h_261.2.1 q_262 j = 0) ∧ ∀ j, h_261.2.2 q_262 j = none := by rw [eh_261]; exact ⟨fun _ => hx_nw_i, fun _ => hx_nw_r⟩
  refine hk_putrF hx hb hts hC_10 hown hW gy td_10 30 (by decide) rfl kw_1173 ⟨rfl, rfl, rfl⟩ rfl hin rfl (x := (some q_262)) rfl rfl rfl dX10_init_1186 (fun H locs h_264 eh_264 hW hs => ?_)
  have f_5 := (hs.o gy trivial rfl).2.trans f_5
  have f_10 := (hs.o gy trivial rfl).2.trans f_10
  have f_15 := (hs.o gy trivial rfl).2.trans f_15
  have f_20 := (hs.o gy trivial rfl).2.trans f_20
  have f_25 := (hs.o gy trivial rfl).2.trans f_25
  have f_30 := (hs.o gy trivial rfl).2.trans f_30
  have f_35 := (hs.o gy trivial rfl).2.trans f_35
  have f_225 := (hs.o gy trivial rfl).2.trans f_225
  have f_230 := (hs.o gy trivial rfl).2.trans f_230
  have f_235 := (hs.o gy trivial rfl).2.trans f_235
  have f_240 := (hs.o gy trivial rfl).2.trans f_240
  have f_245 := (hs.o gy trivial rfl).2.trans f_245
  have f_250 := (hs.o gy trivial rfl).2.trans f_250
  have f_263 : _ ∧ _ := ⟨fun j => (hs.a gq_262 rfl j).1.trans (f_263.1 j), fun j => (hs.a gq_262 rfl j).2.trans (f_263.2 j)⟩
  have hM := hM.tr (hs.mono (by decide))
  have gy := gy.S hs
  have gq_2 := gq_2.S hs
  have gq_7 := gq_7.S hs
  have gq_12 := gq_12.S hs
  have gq_17 := gq_17.S hs
  have gq_22 := gq_22.S hs
  have gq_27 := gq_27.S hs
  have gq_32 := gq_32.S hs
  have gq_222 := gq_222.S hs
  have gq_227 := gq_227.S hs
  have gq_232 := gq_232.S hs
  have gq_237 := gq_237.S hs
  have gq_242 := gq_242.S hs
  have gq_247 := gq_247.S hs
  have gq_262 := gq_262.S hs
  have f_265 : h_264.2.2 y 30 = (some q_262) := by rw [eh_264]; exact hx_pr_at _ _ _ _
  refine lv_aload_n hx hb dX10_init_1189 rfl (lv_at hl 0 rfl) ?_
  refine lv_sipush (v := 400) hx hb dX10_init_1190 (by decide) ?_
  refine hk_newa hx hb hts hW 67 td_67 (atype := .int) rfl kw_186 (tys := P_ty dA) (t0 := 0) rfl (fun _ => Iff.rfl) rfl (i := (400 : Int32)) (by decide) (Nat.le_of_ble_eq_true rfl) (Nat.le_of_ble_eq_true rfl) (Nat.le_of_ble_eq_true rfl) dX10_init_1193 (fun q_267 H h_266 eh_266 hqq_267 hW hs gq_267 => ?_)
  have f_5 := (hs.o gy trivial rfl).2.trans f_5
  have f_10 := (hs.o gy trivial rfl).2.trans f_10
  have f_15 := (hs.o gy trivial rfl).2.trans f_15
  have f_20 := (hs.o gy trivial rfl).2.trans f_20
  have f_25 := (hs.o gy trivial rfl).2.trans f_25
  have f_30 := (hs.o gy trivial rfl).2.trans f_30
  have f_35 := (hs.o gy trivial rfl).2.trans f_35
  have f_225 := (hs.o gy trivial rfl).2.trans f_225
  have f_230 := (hs.o gy trivial rfl).2.trans f_230
  have f_235 := (hs.o gy trivial rfl).2.trans f_235
  have f_240 := (hs.o gy trivial rfl).2.trans f_240
  have f_245 := (hs.o gy trivial rfl).2.trans f_245
  have f_250 := (hs.o gy trivial rfl).2.trans f_250
  have hM := hM.tr (hs.mono (by decide))
  have gy := gy.S hs
  have gq_2 := gq_2.S hs
  have gq_7 := gq_7.S hs
  have gq_12 := gq_12.S hs
  have gq_17 := gq_17.S hs
  have gq_22 := gq_22.S hs
  have gq_27 := gq_27.S hs
  have gq_32 := gq_32.S hs
  have gq_222 := gq_222.S hs
  have gq_227 := gq_227.S hs
  have gq_232 := gq_232.S hs
  have gq_237 := gq_237.S hs
  have gq_242 := gq_242.S hs
  have gq_247 := gq_247.S hs
  have f_268 : (∀ j, h_266.2.1 q_267 j = 0) ∧ ∀ j, h_266.2.2 q_267 j = none := by rw [eh_266]; exact ⟨fun _ => hx_nw_i, fun _ => hx_nw_r⟩
  refine hk_putrF hx hb hts hC_10 hown hW gy td_10 31 (by decide) rfl kw_1174 ⟨rfl, rfl, rfl⟩ rfl hin rfl (x := (some q_267)) rfl rfl rfl dX10_init_1195 (fun H locs h_269 eh_269 hW hs => ?_)
  have f_5 := (hs.o gy trivial rfl).2.trans f_5
  have f_10 := (hs.o gy trivial rfl).2.trans f_10
  have f_15 := (hs.o gy trivial rfl).2.trans f_15
  have f_20 := (hs.o gy trivial rfl).2.trans f_20
  have f_25 := (hs.o gy trivial rfl).2.trans f_25
  have f_30 := (hs.o gy trivial rfl).2.trans f_30
  have f_35 := (hs.o gy trivial rfl).2.trans f_35
  have f_225 := (hs.o gy trivial rfl).2.trans f_225
  have f_230 := (hs.o gy trivial rfl).2.trans f_230
  have f_235 := (hs.o gy trivial rfl).2.trans f_235
  have f_240 := (hs.o gy trivial rfl).2.trans f_240
  have f_245 := (hs.o gy trivial rfl).2.trans f_245
  have f_250 := (hs.o gy trivial rfl).2.trans f_250
  have f_268 : _ ∧ _ := ⟨fun j => (hs.a gq_267 rfl j).1.trans (f_268.1 j), fun j => (hs.a gq_267 rfl j).2.trans (f_268.2 j)⟩
  have hM := hM.tr (hs.mono (by decide))
  have gy := gy.S hs
  have gq_2 := gq_2.S hs
  have gq_7 := gq_7.S hs
  have gq_12 := gq_12.S hs
  have gq_17 := gq_17.S hs
  have gq_22 := gq_22.S hs
  have gq_27 := gq_27.S hs
  have gq_32 := gq_32.S hs
  have gq_222 := gq_222.S hs
  have gq_227 := gq_227.S hs
  have gq_232 := gq_232.S hs
  have gq_237 := gq_237.S hs
  have gq_242 := gq_242.S hs
  have gq_247 := gq_247.S hs
  have gq_267 := gq_267.S hs
  have f_270 : h_269.2.2 y 31 = (some q_267) := by rw [eh_269]; exact hx_pr_at _ _ _ _
  refine W.widen (k := 19) (n := 3251) (Nat.le_of_ble_eq_true rfl) (Nat.le_of_ble_eq_true rfl) ?_
  exact sg_X10_init_10 l dC dI dA L h sz y q_2 q_7 q_12 q_17 q_22 q_27 q_32 q_222 q_227 q_232 q_237 q_242 q_247 hx hb hml hr hlk hts hown hin hsz (((L1 ++ [q_257]) ++ [q_262]) ++ [q_267]) h_269 _ _ ls hW hM f_5 f_10 f_15 f_20 f_25 f_30 f_35 f_225 f_230 f_235 f_240 f_245 f_250  gy gq_2 gq_7 gq_12 gq_17 gq_22 gq_27 gq_32 gq_222 gq_227 gq_232 gq_237 gq_242 gq_247 hl

set_option maxHeartbeats 4000000 in
set_option maxRecDepth 100000 in
theorem sg_X10_init_8 (l : Launch) (dC : Nat → ClassId) (dI : Nat → Nat → Nat) (dA : Nat → ClassId) (L : List Nat) (h : hx_h) (sz : Nat) (y : Nat) (q_2 q_7 q_12 q_17 q_22 q_27 q_32 q_222 q_227 q_232 q_237 : Nat) {p : Program} {e : Env} {s : State} {m : MethodId} {below : List Frame} {meth : Method} {c : Code} (hx : p.tables.exec = Jvm.exec) (hb : c.code = cX10_init) (hml : c.maxLocals = 2) (hr : meth.sig.returnType = none) (hlk : meth.locks = false) (hts : ∀ w ∈ hx_all, w.before ([.ref y] : List Value).toArray s = true) (hown : s.vm.findClass "SmallCourtModel" = some m.cls) (hin : meth.name = "<init>") (hsz : s.heap.size = sz) (L1 : List Nat) (hl1 : hx_h) (H : Heap) (locs : List Loc) (ls : Array Slot) (hW : hx_W P_tb (P_ty dA) (dC, dI) vwCl (hx_A L sz) s.heap L1 hl1 s H locs) (hM : hx_S P_tb [(10, 2), (10, 3), (10, 4), (10, 5), (10, 6), (10, 12), (10, 14), (10, 15), (10, 16), (10, 17), (10, 18), (10, 19), (10, 21), (10, 22), (10, 23), (10, 24), (10, 25), (10, 26), (10, 27), (10, 28), (10, 30), (10, 31), (10, 32), (10, 33), (10, 34), (10, 35), (10, 37), (10, 38), (10, 39), (10, 40), (10, 41), (10, 42), (10, 43), (10, 44), (10, 45), (10, 46), (10, 47), (10, 48), (10, 49), (10, 50), (10, 51), (10, 52), (10, 53), (10, 54), (10, 55), (10, 56), (10, 58), (10, 60), (10, 61), (10, 62), (10, 63), (10, 64), (10, 65), (10, 66), (10, 73), (10, 74), (10, 76), (10, 77), (10, 78), (10, 79), (10, 80), (10, 81), (10, 82), (10, 85), (10, 88), (10, 89), (10, 91), (10, 93), (10, 94), (10, 97), (50, 0), (51, 0), (52, 0), (55, 0), (57, 0)] L h L1 hl1) (f_5 : hl1.2.2 y 2 = some q_2) (f_10 : hl1.2.2 y 3 = some q_7) (f_15 : hl1.2.2 y 4 = some q_12) (f_20 : hl1.2.2 y 5 = some q_17) (f_25 : hl1.2.2 y 6 = some q_22) (f_30 : hl1.2.2 y 12 = some q_27) (f_35 : hl1.2.2 y 15 = some q_32) (f_225 : hl1.2.2 y 21 = some q_222) (f_230 : hl1.2.2 y 22 = some q_227) (f_235 : hl1.2.2 y 23 = some q_232) (f_240 : hl1.2.2 y 24 = some q_237)  (gy : hx_g L1 hl1 y 10) (gq_2 : hx_g L1 hl1 q_2 49) (gq_7 : hx_g L1 hl1 q_7 50) (gq_12 : hx_g L1 hl1 q_12 51) (gq_17 : hx_g L1 hl1 q_17 52) (gq_22 : hx_g L1 hl1 q_22 53) (gq_27 : hx_g L1 hl1 q_27 54) (gq_32 : hx_g L1 hl1 q_32 55) (gq_222 : hx_g L1 hl1 q_222 58) (gq_227 : hx_g L1 hl1 q_227 59) (gq_232 : hx_g L1 hl1 q_232 60) (gq_237 : hx_g L1 hl1 q_237 61) (hl : lv_has ls 2 [(0, .ref y)]) : W p l e ({ frames := 2, cells := 67, slots := 15340, locals := 42 }) s m ([.ref y] : List Value).toArray below meth c H locs 13 2291 (MQ below (va_Qv (fun (u : List Nat × hx_h) => hx_S P_tb [(10, 2), (10, 3), (10, 4), (10, 5), (10, 6), (10, 12), (10, 14), (10, 15), (10, 16), (10, 17), (10, 18), (10, 19), (10, 21), (10, 22), (10, 23), (10, 24), (10, 25), (10, 26), (10, 27), (10, 28), (10, 30), (10, 31), (10, 32), (10, 33), (10, 34), (10, 35), (10, 37), (10, 38), (10, 39), (10, 40), (10, 41), (10, 42), (10, 43), (10, 44), (10, 45), (10, 46), (10, 47), (10, 48), (10, 49), (10, 50), (10, 51), (10, 52), (10, 53), (10, 54), (10, 55), (10, 56), (10, 58), (10, 60), (10, 61), (10, 62), (10, 63), (10, 64), (10, 65), (10, 66), (10, 73), (10, 74), (10, 76), (10, 77), (10, 78), (10, 79), (10, 80), (10, 81), (10, 82), (10, 85), (10, 88), (10, 89), (10, 91), (10, 93), (10, 94), (10, 97), (50, 0), (51, 0), (52, 0), (55, 0), (57, 0)] L h u.1 u.2 ∧ (∃ q, u.2.2.2 y 2 = some q ∧ hx_g u.1 u.2 q 49) ∧ (∃ q, u.2.2.2 y 3 = some q ∧ hx_g u.1 u.2 q 50 ∧ (∀ j, j < 13 → u.2.2.1 q j = P_w1 j)) ∧ (∃ q, u.2.2.2 y 4 = some q ∧ hx_g u.1 u.2 q 51) ∧ (∃ q, u.2.2.2 y 5 = some q ∧ hx_g u.1 u.2 q 52) ∧ (∃ q, u.2.2.2 y 6 = some q ∧ hx_g u.1 u.2 q 53) ∧ (∃ q, u.2.2.2 y 12 = some q ∧ hx_g u.1 u.2 q 54) ∧ (∃ q, u.2.2.2 y 15 = some q ∧ hx_g u.1 u.2 q 55) ∧ (∃ q, u.2.2.2 y 21 = some q ∧ hx_g u.1 u.2 q 58) ∧ (∃ q, u.2.2.2 y 22 = some q ∧ hx_g u.1 u.2 q 59) ∧ (∃ q, u.2.2.2 y 23 = some q ∧ hx_g u.1 u.2 q 60) ∧ (∃ q, u.2.2.2 y 24 = some q ∧ hx_g u.1 u.2 q 61) ∧ (∃ q, u.2.2.2 y 25 = some q ∧ hx_g u.1 u.2 q 62) ∧ (∃ q, u.2.2.2 y 26 = some q ∧ hx_g u.1 u.2 q 63) ∧ (∃ q, u.2.2.2 y 82 = some q ∧ hx_g u.1 u.2 q 108) ∧ (∃ q, u.2.2.2 y 94 = some q ∧ hx_g u.1 u.2 q 114)) (hx_E P_tb (P_ty dA) (dC, dI) vwCl (hx_A L sz)) (hx_A L sz)) ([.ref y] : List Value).toArray s 67 15340 (hx_A L sz)) (F0 m 1148 ls []) := by
  refine lv_aload_n hx hb dX10_init_1148 rfl (lv_at hl 0 rfl) ?_
  refine lv_bipush (v := 40) hx hb dX10_init_1149 (by decide) ?_
  refine hk_newa hx hb hts hW 62 td_62 (atype := .int) rfl kw_186 (tys := P_ty dA) (t0 := 0) rfl (fun _ => Iff.rfl) rfl (i := (40 : Int32)) (by decide) (Nat.le_of_ble_eq_true rfl) (Nat.le_of_ble_eq_true rfl) (Nat.le_of_ble_eq_true rfl) dX10_init_1151 (fun q_242 H h_241 eh_241 hqq_242 hW hs gq_242 => ?_)
  have f_5 := (hs.o gy trivial rfl).2.trans f_5
  have f_10 := (hs.o gy trivial rfl).2.trans f_10
  have f_15 := (hs.o gy trivial rfl).2.trans f_15
  have f_20 := (hs.o gy trivial rfl).2.trans f_20
  have f_25 := (hs.o gy trivial rfl).2.trans f_25
  have f_30 := (hs.o gy trivial rfl).2.trans f_30
  have f_35 := (hs.o gy trivial rfl).2.trans f_35
  have f_225 := (hs.o gy trivial rfl).2.trans f_225
  have f_230 := (hs.o gy trivial rfl).2.trans f_230
  have f_235 := (hs.o gy trivial rfl).2.trans f_235
  have f_240 := (hs.o gy trivial rfl).2.trans f_240
  have hM := hM.tr (hs.mono (by decide))
  have gy := gy.S hs
  have gq_2 := gq_2.S hs
  have gq_7 := gq_7.S hs
  have gq_12 := gq_12.S hs
  have gq_17 := gq_17.S hs
  have gq_22 := gq_22.S hs
  have gq_27 := gq_27.S hs
  have gq_32 := gq_32.S hs
  have gq_222 := gq_222.S hs
  have gq_227 := gq_227.S hs
  have gq_232 := gq_232.S hs
  have gq_237 := gq_237.S hs
  have f_243 : (∀ j, h_241.2.1 q_242 j = 0) ∧ ∀ j, h_241.2.2 q_242 j = none := by rw [eh_241]; exact ⟨fun _ => hx_nw_i, fun _ => hx_nw_r⟩
  refine hk_putrF hx hb hts hC_10 hown hW gy td_10 25 (by decide) rfl kw_1168 ⟨rfl, rfl, rfl⟩ rfl hin rfl (x := (some q_242)) rfl rfl rfl dX10_init_1153 (fun H locs h_244 eh_244 hW hs => ?_)
  have f_5 := (hs.o gy trivial rfl).2.trans f_5
  have f_10 := (hs.o gy trivial rfl).2.trans f_10
  have f_15 := (hs.o gy trivial rfl).2.trans f_15
  have f_20 := (hs.o gy trivial rfl).2.trans f_20
  have f_25 := (hs.o gy trivial rfl).2.trans f_25
  have f_30 := (hs.o gy trivial rfl).2.trans f_30
  have f_35 := (hs.o gy trivial rfl).2.trans f_35
  have f_225 := (hs.o gy trivial rfl).2.trans f_225
  have f_230 := (hs.o gy trivial rfl).2.trans f_230
  have f_235 := (hs.o gy trivial rfl).2.trans f_235
  have f_240 := (hs.o gy trivial rfl).2.trans f_240
  have f_243 : _ ∧ _ := ⟨fun j => (hs.a gq_242 rfl j).1.trans (f_243.1 j), fun j => (hs.a gq_242 rfl j).2.trans (f_243.2 j)⟩
  have hM := hM.tr (hs.mono (by decide))
  have gy := gy.S hs
  have gq_2 := gq_2.S hs
  have gq_7 := gq_7.S hs
  have gq_12 := gq_12.S hs
  have gq_17 := gq_17.S hs
  have gq_22 := gq_22.S hs
  have gq_27 := gq_27.S hs
  have gq_32 := gq_32.S hs
  have gq_222 := gq_222.S hs
  have gq_227 := gq_227.S hs
  have gq_232 := gq_232.S hs
  have gq_237 := gq_237.S hs
  have gq_242 := gq_242.S hs
  have f_245 : h_244.2.2 y 25 = (some q_242) := by rw [eh_244]; exact hx_pr_at _ _ _ _
  refine lv_aload_n hx hb dX10_init_1156 rfl (lv_at hl 0 rfl) ?_
  refine lv_bipush (v := 40) hx hb dX10_init_1157 (by decide) ?_
  refine hk_newa hx hb hts hW 63 td_63 (atype := .int) rfl kw_186 (tys := P_ty dA) (t0 := 0) rfl (fun _ => Iff.rfl) rfl (i := (40 : Int32)) (by decide) (Nat.le_of_ble_eq_true rfl) (Nat.le_of_ble_eq_true rfl) (Nat.le_of_ble_eq_true rfl) dX10_init_1159 (fun q_247 H h_246 eh_246 hqq_247 hW hs gq_247 => ?_)
  have f_5 := (hs.o gy trivial rfl).2.trans f_5
  have f_10 := (hs.o gy trivial rfl).2.trans f_10
  have f_15 := (hs.o gy trivial rfl).2.trans f_15
  have f_20 := (hs.o gy trivial rfl).2.trans f_20
  have f_25 := (hs.o gy trivial rfl).2.trans f_25
  have f_30 := (hs.o gy trivial rfl).2.trans f_30
  have f_35 := (hs.o gy trivial rfl).2.trans f_35
  have f_225 := (hs.o gy trivial rfl).2.trans f_225
  have f_230 := (hs.o gy trivial rfl).2.trans f_230
  have f_235 := (hs.o gy trivial rfl).2.trans f_235
  have f_240 := (hs.o gy trivial rfl).2.trans f_240
  have f_245 := (hs.o gy trivial rfl).2.trans f_245
  have hM := hM.tr (hs.mono (by decide))
  have gy := gy.S hs
  have gq_2 := gq_2.S hs
  have gq_7 := gq_7.S hs
  have gq_12 := gq_12.S hs
  have gq_17 := gq_17.S hs
  have gq_22 := gq_22.S hs
  have gq_27 := gq_27.S hs
  have gq_32 := gq_32.S hs
  have gq_222 := gq_222.S hs
  have gq_227 := gq_227.S hs
  have gq_232 := gq_232.S hs
  have gq_237 := gq_237.S hs
  have gq_242 := gq_242.S hs
  have f_248 : (∀ j, h_246.2.1 q_247 j = 0) ∧ ∀ j, h_246.2.2 q_247 j = none := by rw [eh_246]; exact ⟨fun _ => hx_nw_i, fun _ => hx_nw_r⟩
  refine hk_putrF hx hb hts hC_10 hown hW gy td_10 26 (by decide) rfl kw_1169 ⟨rfl, rfl, rfl⟩ rfl hin rfl (x := (some q_247)) rfl rfl rfl dX10_init_1161 (fun H locs h_249 eh_249 hW hs => ?_)
  have f_5 := (hs.o gy trivial rfl).2.trans f_5
  have f_10 := (hs.o gy trivial rfl).2.trans f_10
  have f_15 := (hs.o gy trivial rfl).2.trans f_15
  have f_20 := (hs.o gy trivial rfl).2.trans f_20
  have f_25 := (hs.o gy trivial rfl).2.trans f_25
  have f_30 := (hs.o gy trivial rfl).2.trans f_30
  have f_35 := (hs.o gy trivial rfl).2.trans f_35
  have f_225 := (hs.o gy trivial rfl).2.trans f_225
  have f_230 := (hs.o gy trivial rfl).2.trans f_230
  have f_235 := (hs.o gy trivial rfl).2.trans f_235
  have f_240 := (hs.o gy trivial rfl).2.trans f_240
  have f_245 := (hs.o gy trivial rfl).2.trans f_245
  have f_248 : _ ∧ _ := ⟨fun j => (hs.a gq_247 rfl j).1.trans (f_248.1 j), fun j => (hs.a gq_247 rfl j).2.trans (f_248.2 j)⟩
  have hM := hM.tr (hs.mono (by decide))
  have gy := gy.S hs
  have gq_2 := gq_2.S hs
  have gq_7 := gq_7.S hs
  have gq_12 := gq_12.S hs
  have gq_17 := gq_17.S hs
  have gq_22 := gq_22.S hs
  have gq_27 := gq_27.S hs
  have gq_32 := gq_32.S hs
  have gq_222 := gq_222.S hs
  have gq_227 := gq_227.S hs
  have gq_232 := gq_232.S hs
  have gq_237 := gq_237.S hs
  have gq_242 := gq_242.S hs
  have gq_247 := gq_247.S hs
  have f_250 : h_249.2.2 y 26 = (some q_247) := by rw [eh_249]; exact hx_pr_at _ _ _ _
  refine lv_aload_n hx hb dX10_init_1164 rfl (lv_at hl 0 rfl) ?_
  refine lv_bipush (v := 40) hx hb dX10_init_1165 (by decide) ?_
  refine hk_newa hx hb hts hW 64 td_64 (atype := .boolean) rfl kw_222 (tys := P_ty dA) (t0 := 2) rfl (fun _ => Iff.rfl) rfl (i := (40 : Int32)) (by decide) (Nat.le_of_ble_eq_true rfl) (Nat.le_of_ble_eq_true rfl) (Nat.le_of_ble_eq_true rfl) dX10_init_1167 (fun q_252 H h_251 eh_251 hqq_252 hW hs gq_252 => ?_)
  have f_5 := (hs.o gy trivial rfl).2.trans f_5
  have f_10 := (hs.o gy trivial rfl).2.trans f_10
  have f_15 := (hs.o gy trivial rfl).2.trans f_15
  have f_20 := (hs.o gy trivial rfl).2.trans f_20
  have f_25 := (hs.o gy trivial rfl).2.trans f_25
  have f_30 := (hs.o gy trivial rfl).2.trans f_30
  have f_35 := (hs.o gy trivial rfl).2.trans f_35
  have f_225 := (hs.o gy trivial rfl).2.trans f_225
  have f_230 := (hs.o gy trivial rfl).2.trans f_230
  have f_235 := (hs.o gy trivial rfl).2.trans f_235
  have f_240 := (hs.o gy trivial rfl).2.trans f_240
  have f_245 := (hs.o gy trivial rfl).2.trans f_245
  have f_250 := (hs.o gy trivial rfl).2.trans f_250
  have hM := hM.tr (hs.mono (by decide))
  have gy := gy.S hs
  have gq_2 := gq_2.S hs
  have gq_7 := gq_7.S hs
  have gq_12 := gq_12.S hs
  have gq_17 := gq_17.S hs
  have gq_22 := gq_22.S hs
  have gq_27 := gq_27.S hs
  have gq_32 := gq_32.S hs
  have gq_222 := gq_222.S hs
  have gq_227 := gq_227.S hs
  have gq_232 := gq_232.S hs
  have gq_237 := gq_237.S hs
  have gq_242 := gq_242.S hs
  have gq_247 := gq_247.S hs
  have f_253 : (∀ j, h_251.2.1 q_252 j = 0) ∧ ∀ j, h_251.2.2 q_252 j = none := by rw [eh_251]; exact ⟨fun _ => hx_nw_i, fun _ => hx_nw_r⟩
  refine hk_putrF hx hb hts hC_10 hown hW gy td_10 27 (by decide) rfl kw_1170 ⟨rfl, rfl, rfl⟩ rfl hin rfl (x := (some q_252)) rfl rfl rfl dX10_init_1169 (fun H locs h_254 eh_254 hW hs => ?_)
  have f_5 := (hs.o gy trivial rfl).2.trans f_5
  have f_10 := (hs.o gy trivial rfl).2.trans f_10
  have f_15 := (hs.o gy trivial rfl).2.trans f_15
  have f_20 := (hs.o gy trivial rfl).2.trans f_20
  have f_25 := (hs.o gy trivial rfl).2.trans f_25
  have f_30 := (hs.o gy trivial rfl).2.trans f_30
  have f_35 := (hs.o gy trivial rfl).2.trans f_35
  have f_225 := (hs.o gy trivial rfl).2.trans f_225
  have f_230 := (hs.o gy trivial rfl).2.trans f_230
  have f_235 := (hs.o gy trivial rfl).2.trans f_235
  have f_240 := (hs.o gy trivial rfl).2.trans f_240
  have f_245 := (hs.o gy trivial rfl).2.trans f_245
  have f_250 := (hs.o gy trivial rfl).2.trans f_250
  have f_253 : _ ∧ _ := ⟨fun j => (hs.a gq_252 rfl j).1.trans (f_253.1 j), fun j => (hs.a gq_252 rfl j).2.trans (f_253.2 j)⟩
  have hM := hM.tr (hs.mono (by decide))
  have gy := gy.S hs
  have gq_2 := gq_2.S hs
  have gq_7 := gq_7.S hs
  have gq_12 := gq_12.S hs
  have gq_17 := gq_17.S hs
  have gq_22 := gq_22.S hs
  have gq_27 := gq_27.S hs
  have gq_32 := gq_32.S hs
  have gq_222 := gq_222.S hs
  have gq_227 := gq_227.S hs
  have gq_232 := gq_232.S hs
  have gq_237 := gq_237.S hs
  have gq_242 := gq_242.S hs
  have gq_247 := gq_247.S hs
  have gq_252 := gq_252.S hs
  have f_255 : h_254.2.2 y 27 = (some q_252) := by rw [eh_254]; exact hx_pr_at _ _ _ _
  refine W.widen (k := 16) (n := 2411) (Nat.le_of_ble_eq_true rfl) (Nat.le_of_ble_eq_true rfl) ?_
  exact sg_X10_init_9 l dC dI dA L h sz y q_2 q_7 q_12 q_17 q_22 q_27 q_32 q_222 q_227 q_232 q_237 q_242 q_247 hx hb hml hr hlk hts hown hin hsz (((L1 ++ [q_242]) ++ [q_247]) ++ [q_252]) h_254 _ _ ls hW hM f_5 f_10 f_15 f_20 f_25 f_30 f_35 f_225 f_230 f_235 f_240 f_245 f_250  gy gq_2 gq_7 gq_12 gq_17 gq_22 gq_27 gq_32 gq_222 gq_227 gq_232 gq_237 gq_242 gq_247 hl

set_option maxHeartbeats 4000000 in
set_option maxRecDepth 100000 in
theorem sg_X10_init_7 (l : Launch) (dC : Nat → ClassId) (dI : Nat → Nat → Nat) (dA : Nat → ClassId) (L : List Nat) (h : hx_h) (sz : Nat) (y : Nat) (q_2 q_7 q_12 q_17 q_22 q_27 q_32 : Nat) {p : Program} {e : Env} {s : State} {m : MethodId} {below : List Frame} {meth : Method} {c : Code} (hx : p.tables.exec = Jvm.exec) (hb : c.code = cX10_init) (hml : c.maxLocals = 2) (hr : meth.sig.returnType = none) (hlk : meth.locks = false) (hts : ∀ w ∈ hx_all, w.before ([.ref y] : List Value).toArray s = true) (hown : s.vm.findClass "SmallCourtModel" = some m.cls) (hin : meth.name = "<init>") (hsz : s.heap.size = sz) (L1 : List Nat) (hl1 : hx_h) (H : Heap) (locs : List Loc) (ls : Array Slot) (hW : hx_W P_tb (P_ty dA) (dC, dI) vwCl (hx_A L sz) s.heap L1 hl1 s H locs) (hM : hx_S P_tb [(10, 2), (10, 3), (10, 4), (10, 5), (10, 6), (10, 12), (10, 14), (10, 15), (10, 16), (10, 17), (10, 18), (10, 19), (10, 21), (10, 22), (10, 23), (10, 24), (10, 25), (10, 26), (10, 27), (10, 28), (10, 30), (10, 31), (10, 32), (10, 33), (10, 34), (10, 35), (10, 37), (10, 38), (10, 39), (10, 40), (10, 41), (10, 42), (10, 43), (10, 44), (10, 45), (10, 46), (10, 47), (10, 48), (10, 49), (10, 50), (10, 51), (10, 52), (10, 53), (10, 54), (10, 55), (10, 56), (10, 58), (10, 60), (10, 61), (10, 62), (10, 63), (10, 64), (10, 65), (10, 66), (10, 73), (10, 74), (10, 76), (10, 77), (10, 78), (10, 79), (10, 80), (10, 81), (10, 82), (10, 85), (10, 88), (10, 89), (10, 91), (10, 93), (10, 94), (10, 97), (50, 0), (51, 0), (52, 0), (55, 0), (57, 0)] L h L1 hl1) (f_5 : hl1.2.2 y 2 = some q_2) (f_10 : hl1.2.2 y 3 = some q_7) (f_15 : hl1.2.2 y 4 = some q_12) (f_20 : hl1.2.2 y 5 = some q_17) (f_25 : hl1.2.2 y 6 = some q_22) (f_30 : hl1.2.2 y 12 = some q_27) (f_35 : hl1.2.2 y 15 = some q_32)  (gy : hx_g L1 hl1 y 10) (gq_2 : hx_g L1 hl1 q_2 49) (gq_7 : hx_g L1 hl1 q_7 50) (gq_12 : hx_g L1 hl1 q_12 51) (gq_17 : hx_g L1 hl1 q_17 52) (gq_22 : hx_g L1 hl1 q_22 53) (gq_27 : hx_g L1 hl1 q_27 54) (gq_32 : hx_g L1 hl1 q_32 55) (hl : lv_has ls 2 [(0, .ref y)]) : W p l e ({ frames := 2, cells := 67, slots := 15340, locals := 42 }) s m ([.ref y] : List Value).toArray below meth c H locs 9 2131 (MQ below (va_Qv (fun (u : List Nat × hx_h) => hx_S P_tb [(10, 2), (10, 3), (10, 4), (10, 5), (10, 6), (10, 12), (10, 14), (10, 15), (10, 16), (10, 17), (10, 18), (10, 19), (10, 21), (10, 22), (10, 23), (10, 24), (10, 25), (10, 26), (10, 27), (10, 28), (10, 30), (10, 31), (10, 32), (10, 33), (10, 34), (10, 35), (10, 37), (10, 38), (10, 39), (10, 40), (10, 41), (10, 42), (10, 43), (10, 44), (10, 45), (10, 46), (10, 47), (10, 48), (10, 49), (10, 50), (10, 51), (10, 52), (10, 53), (10, 54), (10, 55), (10, 56), (10, 58), (10, 60), (10, 61), (10, 62), (10, 63), (10, 64), (10, 65), (10, 66), (10, 73), (10, 74), (10, 76), (10, 77), (10, 78), (10, 79), (10, 80), (10, 81), (10, 82), (10, 85), (10, 88), (10, 89), (10, 91), (10, 93), (10, 94), (10, 97), (50, 0), (51, 0), (52, 0), (55, 0), (57, 0)] L h u.1 u.2 ∧ (∃ q, u.2.2.2 y 2 = some q ∧ hx_g u.1 u.2 q 49) ∧ (∃ q, u.2.2.2 y 3 = some q ∧ hx_g u.1 u.2 q 50 ∧ (∀ j, j < 13 → u.2.2.1 q j = P_w1 j)) ∧ (∃ q, u.2.2.2 y 4 = some q ∧ hx_g u.1 u.2 q 51) ∧ (∃ q, u.2.2.2 y 5 = some q ∧ hx_g u.1 u.2 q 52) ∧ (∃ q, u.2.2.2 y 6 = some q ∧ hx_g u.1 u.2 q 53) ∧ (∃ q, u.2.2.2 y 12 = some q ∧ hx_g u.1 u.2 q 54) ∧ (∃ q, u.2.2.2 y 15 = some q ∧ hx_g u.1 u.2 q 55) ∧ (∃ q, u.2.2.2 y 21 = some q ∧ hx_g u.1 u.2 q 58) ∧ (∃ q, u.2.2.2 y 22 = some q ∧ hx_g u.1 u.2 q 59) ∧ (∃ q, u.2.2.2 y 23 = some q ∧ hx_g u.1 u.2 q 60) ∧ (∃ q, u.2.2.2 y 24 = some q ∧ hx_g u.1 u.2 q 61) ∧ (∃ q, u.2.2.2 y 25 = some q ∧ hx_g u.1 u.2 q 62) ∧ (∃ q, u.2.2.2 y 26 = some q ∧ hx_g u.1 u.2 q 63) ∧ (∃ q, u.2.2.2 y 82 = some q ∧ hx_g u.1 u.2 q 108) ∧ (∃ q, u.2.2.2 y 94 = some q ∧ hx_g u.1 u.2 q 114)) (hx_E P_tb (P_ty dA) (dC, dI) vwCl (hx_A L sz)) (hx_A L sz)) ([.ref y] : List Value).toArray s 67 15340 (hx_A L sz)) (F0 m 1116 ls []) := by
  refine lv_aload_n hx hb dX10_init_1116 rfl (lv_at hl 0 rfl) ?_
  refine lv_bipush (v := 40) hx hb dX10_init_1117 (by decide) ?_
  refine hk_newa hx hb hts hW 58 td_58 (atype := .int) rfl kw_186 (tys := P_ty dA) (t0 := 0) rfl (fun _ => Iff.rfl) rfl (i := (40 : Int32)) (by decide) (Nat.le_of_ble_eq_true rfl) (Nat.le_of_ble_eq_true rfl) (Nat.le_of_ble_eq_true rfl) dX10_init_1119 (fun q_222 H h_221 eh_221 hqq_222 hW hs gq_222 => ?_)
  have f_5 := (hs.o gy trivial rfl).2.trans f_5
  have f_10 := (hs.o gy trivial rfl).2.trans f_10
  have f_15 := (hs.o gy trivial rfl).2.trans f_15
  have f_20 := (hs.o gy trivial rfl).2.trans f_20
  have f_25 := (hs.o gy trivial rfl).2.trans f_25
  have f_30 := (hs.o gy trivial rfl).2.trans f_30
  have f_35 := (hs.o gy trivial rfl).2.trans f_35
  have hM := hM.tr (hs.mono (by decide))
  have gy := gy.S hs
  have gq_2 := gq_2.S hs
  have gq_7 := gq_7.S hs
  have gq_12 := gq_12.S hs
  have gq_17 := gq_17.S hs
  have gq_22 := gq_22.S hs
  have gq_27 := gq_27.S hs
  have gq_32 := gq_32.S hs
  have f_223 : (∀ j, h_221.2.1 q_222 j = 0) ∧ ∀ j, h_221.2.2 q_222 j = none := by rw [eh_221]; exact ⟨fun _ => hx_nw_i, fun _ => hx_nw_r⟩
  refine hk_putrF hx hb hts hC_10 hown hW gy td_10 21 (by decide) rfl kw_1164 ⟨rfl, rfl, rfl⟩ rfl hin rfl (x := (some q_222)) rfl rfl rfl dX10_init_1121 (fun H locs h_224 eh_224 hW hs => ?_)
  have f_5 := (hs.o gy trivial rfl).2.trans f_5
  have f_10 := (hs.o gy trivial rfl).2.trans f_10
  have f_15 := (hs.o gy trivial rfl).2.trans f_15
  have f_20 := (hs.o gy trivial rfl).2.trans f_20
  have f_25 := (hs.o gy trivial rfl).2.trans f_25
  have f_30 := (hs.o gy trivial rfl).2.trans f_30
  have f_35 := (hs.o gy trivial rfl).2.trans f_35
  have f_223 : _ ∧ _ := ⟨fun j => (hs.a gq_222 rfl j).1.trans (f_223.1 j), fun j => (hs.a gq_222 rfl j).2.trans (f_223.2 j)⟩
  have hM := hM.tr (hs.mono (by decide))
  have gy := gy.S hs
  have gq_2 := gq_2.S hs
  have gq_7 := gq_7.S hs
  have gq_12 := gq_12.S hs
  have gq_17 := gq_17.S hs
  have gq_22 := gq_22.S hs
  have gq_27 := gq_27.S hs
  have gq_32 := gq_32.S hs
  have gq_222 := gq_222.S hs
  have f_225 : h_224.2.2 y 21 = (some q_222) := by rw [eh_224]; exact hx_pr_at _ _ _ _
  refine lv_aload_n hx hb dX10_init_1124 rfl (lv_at hl 0 rfl) ?_
  refine lv_bipush (v := 40) hx hb dX10_init_1125 (by decide) ?_
  refine hk_newa hx hb hts hW 59 td_59 (atype := .int) rfl kw_186 (tys := P_ty dA) (t0 := 0) rfl (fun _ => Iff.rfl) rfl (i := (40 : Int32)) (by decide) (Nat.le_of_ble_eq_true rfl) (Nat.le_of_ble_eq_true rfl) (Nat.le_of_ble_eq_true rfl) dX10_init_1127 (fun q_227 H h_226 eh_226 hqq_227 hW hs gq_227 => ?_)
  have f_5 := (hs.o gy trivial rfl).2.trans f_5
  have f_10 := (hs.o gy trivial rfl).2.trans f_10
  have f_15 := (hs.o gy trivial rfl).2.trans f_15
  have f_20 := (hs.o gy trivial rfl).2.trans f_20
  have f_25 := (hs.o gy trivial rfl).2.trans f_25
  have f_30 := (hs.o gy trivial rfl).2.trans f_30
  have f_35 := (hs.o gy trivial rfl).2.trans f_35
  have f_225 := (hs.o gy trivial rfl).2.trans f_225
  have hM := hM.tr (hs.mono (by decide))
  have gy := gy.S hs
  have gq_2 := gq_2.S hs
  have gq_7 := gq_7.S hs
  have gq_12 := gq_12.S hs
  have gq_17 := gq_17.S hs
  have gq_22 := gq_22.S hs
  have gq_27 := gq_27.S hs
  have gq_32 := gq_32.S hs
  have gq_222 := gq_222.S hs
  have f_228 : (∀ j, h_226.2.1 q_227 j = 0) ∧ ∀ j, h_226.2.2 q_227 j = none := by rw [eh_226]; exact ⟨fun _ => hx_nw_i, fun _ => hx_nw_r⟩
  refine hk_putrF hx hb hts hC_10 hown hW gy td_10 22 (by decide) rfl kw_1165 ⟨rfl, rfl, rfl⟩ rfl hin rfl (x := (some q_227)) rfl rfl rfl dX10_init_1129 (fun H locs h_229 eh_229 hW hs => ?_)
  have f_5 := (hs.o gy trivial rfl).2.trans f_5
  have f_10 := (hs.o gy trivial rfl).2.trans f_10
  have f_15 := (hs.o gy trivial rfl).2.trans f_15
  have f_20 := (hs.o gy trivial rfl).2.trans f_20
  have f_25 := (hs.o gy trivial rfl).2.trans f_25
  have f_30 := (hs.o gy trivial rfl).2.trans f_30
  have f_35 := (hs.o gy trivial rfl).2.trans f_35
  have f_225 := (hs.o gy trivial rfl).2.trans f_225
  have f_228 : _ ∧ _ := ⟨fun j => (hs.a gq_227 rfl j).1.trans (f_228.1 j), fun j => (hs.a gq_227 rfl j).2.trans (f_228.2 j)⟩
  have hM := hM.tr (hs.mono (by decide))
  have gy := gy.S hs
  have gq_2 := gq_2.S hs
  have gq_7 := gq_7.S hs
  have gq_12 := gq_12.S hs
  have gq_17 := gq_17.S hs
  have gq_22 := gq_22.S hs
  have gq_27 := gq_27.S hs
  have gq_32 := gq_32.S hs
  have gq_222 := gq_222.S hs
  have gq_227 := gq_227.S hs
  have f_230 : h_229.2.2 y 22 = (some q_227) := by rw [eh_229]; exact hx_pr_at _ _ _ _
  refine lv_aload_n hx hb dX10_init_1132 rfl (lv_at hl 0 rfl) ?_
  refine lv_bipush (v := 40) hx hb dX10_init_1133 (by decide) ?_
  refine hk_newa hx hb hts hW 60 td_60 (atype := .int) rfl kw_186 (tys := P_ty dA) (t0 := 0) rfl (fun _ => Iff.rfl) rfl (i := (40 : Int32)) (by decide) (Nat.le_of_ble_eq_true rfl) (Nat.le_of_ble_eq_true rfl) (Nat.le_of_ble_eq_true rfl) dX10_init_1135 (fun q_232 H h_231 eh_231 hqq_232 hW hs gq_232 => ?_)
  have f_5 := (hs.o gy trivial rfl).2.trans f_5
  have f_10 := (hs.o gy trivial rfl).2.trans f_10
  have f_15 := (hs.o gy trivial rfl).2.trans f_15
  have f_20 := (hs.o gy trivial rfl).2.trans f_20
  have f_25 := (hs.o gy trivial rfl).2.trans f_25
  have f_30 := (hs.o gy trivial rfl).2.trans f_30
  have f_35 := (hs.o gy trivial rfl).2.trans f_35
  have f_225 := (hs.o gy trivial rfl).2.trans f_225
  have f_230 := (hs.o gy trivial rfl).2.trans f_230
  have hM := hM.tr (hs.mono (by decide))
  have gy := gy.S hs
  have gq_2 := gq_2.S hs
  have gq_7 := gq_7.S hs
  have gq_12 := gq_12.S hs
  have gq_17 := gq_17.S hs
  have gq_22 := gq_22.S hs
  have gq_27 := gq_27.S hs
  have gq_32 := gq_32.S hs
  have gq_222 := gq_222.S hs
  have gq_227 := gq_227.S hs
  have f_233 : (∀ j, h_231.2.1 q_232 j = 0) ∧ ∀ j, h_231.2.2 q_232 j = none := by rw [eh_231]; exact ⟨fun _ => hx_nw_i, fun _ => hx_nw_r⟩
  refine hk_putrF hx hb hts hC_10 hown hW gy td_10 23 (by decide) rfl kw_1166 ⟨rfl, rfl, rfl⟩ rfl hin rfl (x := (some q_232)) rfl rfl rfl dX10_init_1137 (fun H locs h_234 eh_234 hW hs => ?_)
  have f_5 := (hs.o gy trivial rfl).2.trans f_5
  have f_10 := (hs.o gy trivial rfl).2.trans f_10
  have f_15 := (hs.o gy trivial rfl).2.trans f_15
  have f_20 := (hs.o gy trivial rfl).2.trans f_20
  have f_25 := (hs.o gy trivial rfl).2.trans f_25
  have f_30 := (hs.o gy trivial rfl).2.trans f_30
  have f_35 := (hs.o gy trivial rfl).2.trans f_35
  have f_225 := (hs.o gy trivial rfl).2.trans f_225
  have f_230 := (hs.o gy trivial rfl).2.trans f_230
  have f_233 : _ ∧ _ := ⟨fun j => (hs.a gq_232 rfl j).1.trans (f_233.1 j), fun j => (hs.a gq_232 rfl j).2.trans (f_233.2 j)⟩
  have hM := hM.tr (hs.mono (by decide))
  have gy := gy.S hs
  have gq_2 := gq_2.S hs
  have gq_7 := gq_7.S hs
  have gq_12 := gq_12.S hs
  have gq_17 := gq_17.S hs
  have gq_22 := gq_22.S hs
  have gq_27 := gq_27.S hs
  have gq_32 := gq_32.S hs
  have gq_222 := gq_222.S hs
  have gq_227 := gq_227.S hs
  have gq_232 := gq_232.S hs
  have f_235 : h_234.2.2 y 23 = (some q_232) := by rw [eh_234]; exact hx_pr_at _ _ _ _
  refine lv_aload_n hx hb dX10_init_1140 rfl (lv_at hl 0 rfl) ?_
  refine lv_bipush (v := 40) hx hb dX10_init_1141 (by decide) ?_
  refine hk_newa hx hb hts hW 61 td_61 (atype := .int) rfl kw_186 (tys := P_ty dA) (t0 := 0) rfl (fun _ => Iff.rfl) rfl (i := (40 : Int32)) (by decide) (Nat.le_of_ble_eq_true rfl) (Nat.le_of_ble_eq_true rfl) (Nat.le_of_ble_eq_true rfl) dX10_init_1143 (fun q_237 H h_236 eh_236 hqq_237 hW hs gq_237 => ?_)
  have f_5 := (hs.o gy trivial rfl).2.trans f_5
  have f_10 := (hs.o gy trivial rfl).2.trans f_10
  have f_15 := (hs.o gy trivial rfl).2.trans f_15
  have f_20 := (hs.o gy trivial rfl).2.trans f_20
  have f_25 := (hs.o gy trivial rfl).2.trans f_25
  have f_30 := (hs.o gy trivial rfl).2.trans f_30
  have f_35 := (hs.o gy trivial rfl).2.trans f_35
  have f_225 := (hs.o gy trivial rfl).2.trans f_225
  have f_230 := (hs.o gy trivial rfl).2.trans f_230
  have f_235 := (hs.o gy trivial rfl).2.trans f_235
  have hM := hM.tr (hs.mono (by decide))
  have gy := gy.S hs
  have gq_2 := gq_2.S hs
  have gq_7 := gq_7.S hs
  have gq_12 := gq_12.S hs
  have gq_17 := gq_17.S hs
  have gq_22 := gq_22.S hs
  have gq_27 := gq_27.S hs
  have gq_32 := gq_32.S hs
  have gq_222 := gq_222.S hs
  have gq_227 := gq_227.S hs
  have gq_232 := gq_232.S hs
  have f_238 : (∀ j, h_236.2.1 q_237 j = 0) ∧ ∀ j, h_236.2.2 q_237 j = none := by rw [eh_236]; exact ⟨fun _ => hx_nw_i, fun _ => hx_nw_r⟩
  refine hk_putrF hx hb hts hC_10 hown hW gy td_10 24 (by decide) rfl kw_1167 ⟨rfl, rfl, rfl⟩ rfl hin rfl (x := (some q_237)) rfl rfl rfl dX10_init_1145 (fun H locs h_239 eh_239 hW hs => ?_)
  have f_5 := (hs.o gy trivial rfl).2.trans f_5
  have f_10 := (hs.o gy trivial rfl).2.trans f_10
  have f_15 := (hs.o gy trivial rfl).2.trans f_15
  have f_20 := (hs.o gy trivial rfl).2.trans f_20
  have f_25 := (hs.o gy trivial rfl).2.trans f_25
  have f_30 := (hs.o gy trivial rfl).2.trans f_30
  have f_35 := (hs.o gy trivial rfl).2.trans f_35
  have f_225 := (hs.o gy trivial rfl).2.trans f_225
  have f_230 := (hs.o gy trivial rfl).2.trans f_230
  have f_235 := (hs.o gy trivial rfl).2.trans f_235
  have f_238 : _ ∧ _ := ⟨fun j => (hs.a gq_237 rfl j).1.trans (f_238.1 j), fun j => (hs.a gq_237 rfl j).2.trans (f_238.2 j)⟩
  have hM := hM.tr (hs.mono (by decide))
  have gy := gy.S hs
  have gq_2 := gq_2.S hs
  have gq_7 := gq_7.S hs
  have gq_12 := gq_12.S hs
  have gq_17 := gq_17.S hs
  have gq_22 := gq_22.S hs
  have gq_27 := gq_27.S hs
  have gq_32 := gq_32.S hs
  have gq_222 := gq_222.S hs
  have gq_227 := gq_227.S hs
  have gq_232 := gq_232.S hs
  have gq_237 := gq_237.S hs
  have f_240 : h_239.2.2 y 24 = (some q_237) := by rw [eh_239]; exact hx_pr_at _ _ _ _
  refine W.widen (k := 13) (n := 2291) (Nat.le_of_ble_eq_true rfl) (Nat.le_of_ble_eq_true rfl) ?_
  exact sg_X10_init_8 l dC dI dA L h sz y q_2 q_7 q_12 q_17 q_22 q_27 q_32 q_222 q_227 q_232 q_237 hx hb hml hr hlk hts hown hin hsz ((((L1 ++ [q_222]) ++ [q_227]) ++ [q_232]) ++ [q_237]) h_239 _ _ ls hW hM f_5 f_10 f_15 f_20 f_25 f_30 f_35 f_225 f_230 f_235 f_240  gy gq_2 gq_7 gq_12 gq_17 gq_22 gq_27 gq_32 gq_222 gq_227 gq_232 gq_237 hl

set_option maxHeartbeats 4000000 in
set_option maxRecDepth 100000 in
theorem sg_X10_init_6 (l : Launch) (dC : Nat → ClassId) (dI : Nat → Nat → Nat) (dA : Nat → ClassId) (L : List Nat) (h : hx_h) (sz : Nat) (y : Nat) (q_2 q_7 q_12 q_17 q_22 q_27 q_32 q_42 : Nat) {p : Program} {e : Env} {s : State} {m : MethodId} {below : List Frame} {meth : Method} {c : Code} (hx : p.tables.exec = Jvm.exec) (hb : c.code = cX10_init) (hml : c.maxLocals = 2) (hr : meth.sig.returnType = none) (hlk : meth.locks = false) (hts : ∀ w ∈ hx_all, w.before ([.ref y] : List Value).toArray s = true) (hown : s.vm.findClass "SmallCourtModel" = some m.cls) (hin : meth.name = "<init>") (hsz : s.heap.size = sz) (L1 : List Nat) (hl1 : hx_h) (H : Heap) (locs : List Loc) (ls : Array Slot) (hW : hx_W P_tb (P_ty dA) (dC, dI) vwCl (hx_A L sz) s.heap L1 hl1 s H locs) (hM : hx_S P_tb [(10, 2), (10, 3), (10, 4), (10, 5), (10, 6), (10, 12), (10, 14), (10, 15), (10, 16), (10, 17), (10, 18), (10, 19), (10, 21), (10, 22), (10, 23), (10, 24), (10, 25), (10, 26), (10, 27), (10, 28), (10, 30), (10, 31), (10, 32), (10, 33), (10, 34), (10, 35), (10, 37), (10, 38), (10, 39), (10, 40), (10, 41), (10, 42), (10, 43), (10, 44), (10, 45), (10, 46), (10, 47), (10, 48), (10, 49), (10, 50), (10, 51), (10, 52), (10, 53), (10, 54), (10, 55), (10, 56), (10, 58), (10, 60), (10, 61), (10, 62), (10, 63), (10, 64), (10, 65), (10, 66), (10, 73), (10, 74), (10, 76), (10, 77), (10, 78), (10, 79), (10, 80), (10, 81), (10, 82), (10, 85), (10, 88), (10, 89), (10, 91), (10, 93), (10, 94), (10, 97), (50, 0), (51, 0), (52, 0), (55, 0), (57, 0)] L h L1 hl1) (f_5 : hl1.2.2 y 2 = some q_2) (f_10 : hl1.2.2 y 3 = some q_7) (f_15 : hl1.2.2 y 4 = some q_12) (f_20 : hl1.2.2 y 5 = some q_17) (f_25 : hl1.2.2 y 6 = some q_22) (f_30 : hl1.2.2 y 12 = some q_27) (f_35 : hl1.2.2 y 15 = some q_32)  (gy : hx_g L1 hl1 y 10) (gq_2 : hx_g L1 hl1 q_2 49) (gq_7 : hx_g L1 hl1 q_7 50) (gq_12 : hx_g L1 hl1 q_12 51) (gq_17 : hx_g L1 hl1 q_17 52) (gq_22 : hx_g L1 hl1 q_22 53) (gq_27 : hx_g L1 hl1 q_27 54) (gq_32 : hx_g L1 hl1 q_32 55) (gq_42 : hx_g L1 hl1 q_42 57) (hl : lv_has ls 2 [(0, .ref y)]) : W p l e ({ frames := 2, cells := 67, slots := 15340, locals := 42 }) s m ([.ref y] : List Value).toArray below meth c H locs 9 2131 (MQ below (va_Qv (fun (u : List Nat × hx_h) => hx_S P_tb [(10, 2), (10, 3), (10, 4), (10, 5), (10, 6), (10, 12), (10, 14), (10, 15), (10, 16), (10, 17), (10, 18), (10, 19), (10, 21), (10, 22), (10, 23), (10, 24), (10, 25), (10, 26), (10, 27), (10, 28), (10, 30), (10, 31), (10, 32), (10, 33), (10, 34), (10, 35), (10, 37), (10, 38), (10, 39), (10, 40), (10, 41), (10, 42), (10, 43), (10, 44), (10, 45), (10, 46), (10, 47), (10, 48), (10, 49), (10, 50), (10, 51), (10, 52), (10, 53), (10, 54), (10, 55), (10, 56), (10, 58), (10, 60), (10, 61), (10, 62), (10, 63), (10, 64), (10, 65), (10, 66), (10, 73), (10, 74), (10, 76), (10, 77), (10, 78), (10, 79), (10, 80), (10, 81), (10, 82), (10, 85), (10, 88), (10, 89), (10, 91), (10, 93), (10, 94), (10, 97), (50, 0), (51, 0), (52, 0), (55, 0), (57, 0)] L h u.1 u.2 ∧ (∃ q, u.2.2.2 y 2 = some q ∧ hx_g u.1 u.2 q 49) ∧ (∃ q, u.2.2.2 y 3 = some q ∧ hx_g u.1 u.2 q 50 ∧ (∀ j, j < 13 → u.2.2.1 q j = P_w1 j)) ∧ (∃ q, u.2.2.2 y 4 = some q ∧ hx_g u.1 u.2 q 51) ∧ (∃ q, u.2.2.2 y 5 = some q ∧ hx_g u.1 u.2 q 52) ∧ (∃ q, u.2.2.2 y 6 = some q ∧ hx_g u.1 u.2 q 53) ∧ (∃ q, u.2.2.2 y 12 = some q ∧ hx_g u.1 u.2 q 54) ∧ (∃ q, u.2.2.2 y 15 = some q ∧ hx_g u.1 u.2 q 55) ∧ (∃ q, u.2.2.2 y 21 = some q ∧ hx_g u.1 u.2 q 58) ∧ (∃ q, u.2.2.2 y 22 = some q ∧ hx_g u.1 u.2 q 59) ∧ (∃ q, u.2.2.2 y 23 = some q ∧ hx_g u.1 u.2 q 60) ∧ (∃ q, u.2.2.2 y 24 = some q ∧ hx_g u.1 u.2 q 61) ∧ (∃ q, u.2.2.2 y 25 = some q ∧ hx_g u.1 u.2 q 62) ∧ (∃ q, u.2.2.2 y 26 = some q ∧ hx_g u.1 u.2 q 63) ∧ (∃ q, u.2.2.2 y 82 = some q ∧ hx_g u.1 u.2 q 108) ∧ (∃ q, u.2.2.2 y 94 = some q ∧ hx_g u.1 u.2 q 114)) (hx_E P_tb (P_ty dA) (dC, dI) vwCl (hx_A L sz)) (hx_A L sz)) ([.ref y] : List Value).toArray s 67 15340 (hx_A L sz)) (F0 m 954 ls [.ref q_42, .ref y]) := by
  refine lv_dup hx hb dX10_init_954 rfl ?_
  refine lv_sipush (v := 152) hx hb dX10_init_955 (by decide) ?_
  refine lv_bipush (v := 110) hx hb dX10_init_958 (by decide) ?_
  refine hk_bast hx hb hW gq_42 td_57 rfl (by decide) (y := _) rfl dX10_init_960 (fun H locs h_196 eh_196 hW hs => ?_)
  have hs0 := hs
  have gw := gq_42.S hs
  refine lv_dup hx hb dX10_init_961 rfl ?_
  refine lv_sipush (v := 153) hx hb dX10_init_962 (by decide) ?_
  refine lv_bipush (v := 115) hx hb dX10_init_965 (by decide) ?_
  refine hk_bast hx hb hW gw td_57 rfl (by decide) (y := _) rfl dX10_init_967 (fun H locs h_197 eh_197 hW hs => ?_)
  have hs0 := hs0.tr hs
  have gw := gw.S hs
  refine lv_dup hx hb dX10_init_968 rfl ?_
  refine lv_sipush (v := 154) hx hb dX10_init_969 (by decide) ?_
  refine lv_bipush (v := 104) hx hb dX10_init_972 (by decide) ?_
  refine hk_bast hx hb hW gw td_57 rfl (by decide) (y := _) rfl dX10_init_974 (fun H locs h_198 eh_198 hW hs => ?_)
  have hs0 := hs0.tr hs
  have gw := gw.S hs
  refine lv_dup hx hb dX10_init_975 rfl ?_
  refine lv_sipush (v := 155) hx hb dX10_init_976 (by decide) ?_
  refine lv_bipush (v := 101) hx hb dX10_init_979 (by decide) ?_
  refine hk_bast hx hb hW gw td_57 rfl (by decide) (y := _) rfl dX10_init_981 (fun H locs h_199 eh_199 hW hs => ?_)
  have hs0 := hs0.tr hs
  have gw := gw.S hs
  refine lv_dup hx hb dX10_init_982 rfl ?_
  refine lv_sipush (v := 156) hx hb dX10_init_983 (by decide) ?_
  refine lv_bipush (v := 97) hx hb dX10_init_986 (by decide) ?_
  refine hk_bast hx hb hW gw td_57 rfl (by decide) (y := _) rfl dX10_init_988 (fun H locs h_200 eh_200 hW hs => ?_)
  have hs0 := hs0.tr hs
  have gw := gw.S hs
  refine lv_dup hx hb dX10_init_989 rfl ?_
  refine lv_sipush (v := 157) hx hb dX10_init_990 (by decide) ?_
  refine lv_bipush (v := 114) hx hb dX10_init_993 (by decide) ?_
  refine hk_bast hx hb hW gw td_57 rfl (by decide) (y := _) rfl dX10_init_995 (fun H locs h_201 eh_201 hW hs => ?_)
  have hs0 := hs0.tr hs
  have gw := gw.S hs
  refine lv_dup hx hb dX10_init_996 rfl ?_
  refine lv_sipush (v := 158) hx hb dX10_init_997 (by decide) ?_
  refine lv_bipush (v := 105) hx hb dX10_init_1000 (by decide) ?_
  refine hk_bast hx hb hW gw td_57 rfl (by decide) (y := _) rfl dX10_init_1002 (fun H locs h_202 eh_202 hW hs => ?_)
  have hs0 := hs0.tr hs
  have gw := gw.S hs
  refine lv_dup hx hb dX10_init_1003 rfl ?_
  refine lv_sipush (v := 159) hx hb dX10_init_1004 (by decide) ?_
  refine lv_bipush (v := 110) hx hb dX10_init_1007 (by decide) ?_
  refine hk_bast hx hb hW gw td_57 rfl (by decide) (y := _) rfl dX10_init_1009 (fun H locs h_203 eh_203 hW hs => ?_)
  have hs0 := hs0.tr hs
  have gw := gw.S hs
  refine lv_dup hx hb dX10_init_1010 rfl ?_
  refine lv_sipush (v := 160) hx hb dX10_init_1011 (by decide) ?_
  refine lv_bipush (v := 103) hx hb dX10_init_1014 (by decide) ?_
  refine hk_bast hx hb hW gw td_57 rfl (by decide) (y := _) rfl dX10_init_1016 (fun H locs h_204 eh_204 hW hs => ?_)
  have hs0 := hs0.tr hs
  have gw := gw.S hs
  refine lv_dup hx hb dX10_init_1017 rfl ?_
  refine lv_sipush (v := 161) hx hb dX10_init_1018 (by decide) ?_
  refine lv_bipush (v := 111) hx hb dX10_init_1021 (by decide) ?_
  refine hk_bast hx hb hW gw td_57 rfl (by decide) (y := _) rfl dX10_init_1023 (fun H locs h_205 eh_205 hW hs => ?_)
  have hs0 := hs0.tr hs
  have gw := gw.S hs
  refine lv_dup hx hb dX10_init_1024 rfl ?_
  refine lv_sipush (v := 162) hx hb dX10_init_1025 (by decide) ?_
  refine lv_bipush (v := 114) hx hb dX10_init_1028 (by decide) ?_
  refine hk_bast hx hb hW gw td_57 rfl (by decide) (y := _) rfl dX10_init_1030 (fun H locs h_206 eh_206 hW hs => ?_)
  have hs0 := hs0.tr hs
  have gw := gw.S hs
  refine lv_dup hx hb dX10_init_1031 rfl ?_
  refine lv_sipush (v := 163) hx hb dX10_init_1032 (by decide) ?_
  refine lv_bipush (v := 100) hx hb dX10_init_1035 (by decide) ?_
  refine hk_bast hx hb hW gw td_57 rfl (by decide) (y := _) rfl dX10_init_1037 (fun H locs h_207 eh_207 hW hs => ?_)
  have hs0 := hs0.tr hs
  have gw := gw.S hs
  refine lv_dup hx hb dX10_init_1038 rfl ?_
  refine lv_sipush (v := 164) hx hb dX10_init_1039 (by decide) ?_
  refine lv_bipush (v := 101) hx hb dX10_init_1042 (by decide) ?_
  refine hk_bast hx hb hW gw td_57 rfl (by decide) (y := _) rfl dX10_init_1044 (fun H locs h_208 eh_208 hW hs => ?_)
  have hs0 := hs0.tr hs
  have gw := gw.S hs
  refine lv_dup hx hb dX10_init_1045 rfl ?_
  refine lv_sipush (v := 165) hx hb dX10_init_1046 (by decide) ?_
  refine lv_bipush (v := 114) hx hb dX10_init_1049 (by decide) ?_
  refine hk_bast hx hb hW gw td_57 rfl (by decide) (y := _) rfl dX10_init_1051 (fun H locs h_209 eh_209 hW hs => ?_)
  have hs0 := hs0.tr hs
  have gw := gw.S hs
  refine lv_dup hx hb dX10_init_1052 rfl ?_
  refine lv_sipush (v := 166) hx hb dX10_init_1053 (by decide) ?_
  refine lv_iconst (v := 0) hx hb dX10_init_1056 (by decide) ?_
  refine hk_bast hx hb hW gw td_57 rfl (by decide) (y := _) rfl dX10_init_1057 (fun H locs h_210 eh_210 hW hs => ?_)
  have hs0 := hs0.tr hs
  have gw := gw.S hs
  refine lv_dup hx hb dX10_init_1058 rfl ?_
  refine lv_sipush (v := 167) hx hb dX10_init_1059 (by decide) ?_
  refine lv_iconst (v := 0) hx hb dX10_init_1062 (by decide) ?_
  refine hk_bast hx hb hW gw td_57 rfl (by decide) (y := _) rfl dX10_init_1063 (fun H locs h_211 eh_211 hW hs => ?_)
  have hs0 := hs0.tr hs
  have gw := gw.S hs
  refine lv_dup hx hb dX10_init_1064 rfl ?_
  refine lv_sipush (v := 168) hx hb dX10_init_1065 (by decide) ?_
  refine lv_bipush (v := 115) hx hb dX10_init_1068 (by decide) ?_
  refine hk_bast hx hb hW gw td_57 rfl (by decide) (y := _) rfl dX10_init_1070 (fun H locs h_212 eh_212 hW hs => ?_)
  have hs0 := hs0.tr hs
  have gw := gw.S hs
  refine lv_dup hx hb dX10_init_1071 rfl ?_
  refine lv_sipush (v := 169) hx hb dX10_init_1072 (by decide) ?_
  refine lv_bipush (v := 101) hx hb dX10_init_1075 (by decide) ?_
  refine hk_bast hx hb hW gw td_57 rfl (by decide) (y := _) rfl dX10_init_1077 (fun H locs h_213 eh_213 hW hs => ?_)
  have hs0 := hs0.tr hs
  have gw := gw.S hs
  refine lv_dup hx hb dX10_init_1078 rfl ?_
  refine lv_sipush (v := 170) hx hb dX10_init_1079 (by decide) ?_
  refine lv_bipush (v := 105) hx hb dX10_init_1082 (by decide) ?_
  refine hk_bast hx hb hW gw td_57 rfl (by decide) (y := _) rfl dX10_init_1084 (fun H locs h_214 eh_214 hW hs => ?_)
  have hs0 := hs0.tr hs
  have gw := gw.S hs
  refine lv_dup hx hb dX10_init_1085 rfl ?_
  refine lv_sipush (v := 171) hx hb dX10_init_1086 (by decide) ?_
  refine lv_bipush (v := 122) hx hb dX10_init_1089 (by decide) ?_
  refine hk_bast hx hb hW gw td_57 rfl (by decide) (y := _) rfl dX10_init_1091 (fun H locs h_215 eh_215 hW hs => ?_)
  have hs0 := hs0.tr hs
  have gw := gw.S hs
  refine lv_dup hx hb dX10_init_1092 rfl ?_
  refine lv_sipush (v := 172) hx hb dX10_init_1093 (by decide) ?_
  refine lv_bipush (v := 117) hx hb dX10_init_1096 (by decide) ?_
  refine hk_bast hx hb hW gw td_57 rfl (by decide) (y := _) rfl dX10_init_1098 (fun H locs h_216 eh_216 hW hs => ?_)
  have hs0 := hs0.tr hs
  have gw := gw.S hs
  refine lv_dup hx hb dX10_init_1099 rfl ?_
  refine lv_sipush (v := 173) hx hb dX10_init_1100 (by decide) ?_
  refine lv_bipush (v := 114) hx hb dX10_init_1103 (by decide) ?_
  refine hk_bast hx hb hW gw td_57 rfl (by decide) (y := _) rfl dX10_init_1105 (fun H locs h_217 eh_217 hW hs => ?_)
  have hs0 := hs0.tr hs
  have gw := gw.S hs
  refine lv_dup hx hb dX10_init_1106 rfl ?_
  refine lv_sipush (v := 174) hx hb dX10_init_1107 (by decide) ?_
  refine lv_bipush (v := 101) hx hb dX10_init_1110 (by decide) ?_
  refine hk_bast hx hb hW gw td_57 rfl (by decide) (y := _) rfl dX10_init_1112 (fun H locs h_218 eh_218 hW hs => ?_)
  have hs0 := hs0.tr hs
  have gw := gw.S hs
  have hs := hs0
  have f_5 := (hs.o gy trivial rfl).2.trans f_5
  have f_10 := (hs.o gy trivial rfl).2.trans f_10
  have f_15 := (hs.o gy trivial rfl).2.trans f_15
  have f_20 := (hs.o gy trivial rfl).2.trans f_20
  have f_25 := (hs.o gy trivial rfl).2.trans f_25
  have f_30 := (hs.o gy trivial rfl).2.trans f_30
  have f_35 := (hs.o gy trivial rfl).2.trans f_35
  have hM := hM.tr (hs.mono (by decide))
  have gy := gy.S hs
  have gq_2 := gq_2.S hs
  have gq_7 := gq_7.S hs
  have gq_12 := gq_12.S hs
  have gq_17 := gq_17.S hs
  have gq_22 := gq_22.S hs
  have gq_27 := gq_27.S hs
  have gq_32 := gq_32.S hs
  have gq_42 := gq_42.S hs
  refine hk_putrF hx hb hts hC_10 hown hW gy td_10 19 (by decide) rfl kw_1162 ⟨rfl, rfl, rfl⟩ rfl hin rfl (x := (some q_42)) rfl rfl rfl dX10_init_1113 (fun H locs h_219 eh_219 hW hs => ?_)
  have f_5 := (hs.o gy trivial rfl).2.trans f_5
  have f_10 := (hs.o gy trivial rfl).2.trans f_10
  have f_15 := (hs.o gy trivial rfl).2.trans f_15
  have f_20 := (hs.o gy trivial rfl).2.trans f_20
  have f_25 := (hs.o gy trivial rfl).2.trans f_25
  have f_30 := (hs.o gy trivial rfl).2.trans f_30
  have f_35 := (hs.o gy trivial rfl).2.trans f_35
  have hM := hM.tr (hs.mono (by decide))
  have gy := gy.S hs
  have gq_2 := gq_2.S hs
  have gq_7 := gq_7.S hs
  have gq_12 := gq_12.S hs
  have gq_17 := gq_17.S hs
  have gq_22 := gq_22.S hs
  have gq_27 := gq_27.S hs
  have gq_32 := gq_32.S hs
  have gq_42 := gq_42.S hs
  have f_220 : h_219.2.2 y 19 = (some q_42) := by rw [eh_219]; exact hx_pr_at _ _ _ _
  refine W.widen (k := 9) (n := 2131) (Nat.le_of_ble_eq_true rfl) (Nat.le_of_ble_eq_true rfl) ?_
  exact sg_X10_init_7 l dC dI dA L h sz y q_2 q_7 q_12 q_17 q_22 q_27 q_32 hx hb hml hr hlk hts hown hin hsz L1 h_219 _ _ ls hW hM f_5 f_10 f_15 f_20 f_25 f_30 f_35  gy gq_2 gq_7 gq_12 gq_17 gq_22 gq_27 gq_32 hl

set_option maxHeartbeats 4000000 in
set_option maxRecDepth 100000 in
theorem sg_X10_init_5 (l : Launch) (dC : Nat → ClassId) (dI : Nat → Nat → Nat) (dA : Nat → ClassId) (L : List Nat) (h : hx_h) (sz : Nat) (y : Nat) (q_2 q_7 q_12 q_17 q_22 q_27 q_32 q_42 : Nat) {p : Program} {e : Env} {s : State} {m : MethodId} {below : List Frame} {meth : Method} {c : Code} (hx : p.tables.exec = Jvm.exec) (hb : c.code = cX10_init) (hml : c.maxLocals = 2) (hr : meth.sig.returnType = none) (hlk : meth.locks = false) (hts : ∀ w ∈ hx_all, w.before ([.ref y] : List Value).toArray s = true) (hown : s.vm.findClass "SmallCourtModel" = some m.cls) (hin : meth.name = "<init>") (hsz : s.heap.size = sz) (L1 : List Nat) (hl1 : hx_h) (H : Heap) (locs : List Loc) (ls : Array Slot) (hW : hx_W P_tb (P_ty dA) (dC, dI) vwCl (hx_A L sz) s.heap L1 hl1 s H locs) (hM : hx_S P_tb [(10, 2), (10, 3), (10, 4), (10, 5), (10, 6), (10, 12), (10, 14), (10, 15), (10, 16), (10, 17), (10, 18), (10, 19), (10, 21), (10, 22), (10, 23), (10, 24), (10, 25), (10, 26), (10, 27), (10, 28), (10, 30), (10, 31), (10, 32), (10, 33), (10, 34), (10, 35), (10, 37), (10, 38), (10, 39), (10, 40), (10, 41), (10, 42), (10, 43), (10, 44), (10, 45), (10, 46), (10, 47), (10, 48), (10, 49), (10, 50), (10, 51), (10, 52), (10, 53), (10, 54), (10, 55), (10, 56), (10, 58), (10, 60), (10, 61), (10, 62), (10, 63), (10, 64), (10, 65), (10, 66), (10, 73), (10, 74), (10, 76), (10, 77), (10, 78), (10, 79), (10, 80), (10, 81), (10, 82), (10, 85), (10, 88), (10, 89), (10, 91), (10, 93), (10, 94), (10, 97), (50, 0), (51, 0), (52, 0), (55, 0), (57, 0)] L h L1 hl1) (f_5 : hl1.2.2 y 2 = some q_2) (f_10 : hl1.2.2 y 3 = some q_7) (f_15 : hl1.2.2 y 4 = some q_12) (f_20 : hl1.2.2 y 5 = some q_17) (f_25 : hl1.2.2 y 6 = some q_22) (f_30 : hl1.2.2 y 12 = some q_27) (f_35 : hl1.2.2 y 15 = some q_32)  (gy : hx_g L1 hl1 y 10) (gq_2 : hx_g L1 hl1 q_2 49) (gq_7 : hx_g L1 hl1 q_7 50) (gq_12 : hx_g L1 hl1 q_12 51) (gq_17 : hx_g L1 hl1 q_17 52) (gq_22 : hx_g L1 hl1 q_22 53) (gq_27 : hx_g L1 hl1 q_27 54) (gq_32 : hx_g L1 hl1 q_32 55) (gq_42 : hx_g L1 hl1 q_42 57) (hl : lv_has ls 2 [(0, .ref y)]) : W p l e ({ frames := 2, cells := 67, slots := 15340, locals := 42 }) s m ([.ref y] : List Value).toArray below meth c H locs 9 2131 (MQ below (va_Qv (fun (u : List Nat × hx_h) => hx_S P_tb [(10, 2), (10, 3), (10, 4), (10, 5), (10, 6), (10, 12), (10, 14), (10, 15), (10, 16), (10, 17), (10, 18), (10, 19), (10, 21), (10, 22), (10, 23), (10, 24), (10, 25), (10, 26), (10, 27), (10, 28), (10, 30), (10, 31), (10, 32), (10, 33), (10, 34), (10, 35), (10, 37), (10, 38), (10, 39), (10, 40), (10, 41), (10, 42), (10, 43), (10, 44), (10, 45), (10, 46), (10, 47), (10, 48), (10, 49), (10, 50), (10, 51), (10, 52), (10, 53), (10, 54), (10, 55), (10, 56), (10, 58), (10, 60), (10, 61), (10, 62), (10, 63), (10, 64), (10, 65), (10, 66), (10, 73), (10, 74), (10, 76), (10, 77), (10, 78), (10, 79), (10, 80), (10, 81), (10, 82), (10, 85), (10, 88), (10, 89), (10, 91), (10, 93), (10, 94), (10, 97), (50, 0), (51, 0), (52, 0), (55, 0), (57, 0)] L h u.1 u.2 ∧ (∃ q, u.2.2.2 y 2 = some q ∧ hx_g u.1 u.2 q 49) ∧ (∃ q, u.2.2.2 y 3 = some q ∧ hx_g u.1 u.2 q 50 ∧ (∀ j, j < 13 → u.2.2.1 q j = P_w1 j)) ∧ (∃ q, u.2.2.2 y 4 = some q ∧ hx_g u.1 u.2 q 51) ∧ (∃ q, u.2.2.2 y 5 = some q ∧ hx_g u.1 u.2 q 52) ∧ (∃ q, u.2.2.2 y 6 = some q ∧ hx_g u.1 u.2 q 53) ∧ (∃ q, u.2.2.2 y 12 = some q ∧ hx_g u.1 u.2 q 54) ∧ (∃ q, u.2.2.2 y 15 = some q ∧ hx_g u.1 u.2 q 55) ∧ (∃ q, u.2.2.2 y 21 = some q ∧ hx_g u.1 u.2 q 58) ∧ (∃ q, u.2.2.2 y 22 = some q ∧ hx_g u.1 u.2 q 59) ∧ (∃ q, u.2.2.2 y 23 = some q ∧ hx_g u.1 u.2 q 60) ∧ (∃ q, u.2.2.2 y 24 = some q ∧ hx_g u.1 u.2 q 61) ∧ (∃ q, u.2.2.2 y 25 = some q ∧ hx_g u.1 u.2 q 62) ∧ (∃ q, u.2.2.2 y 26 = some q ∧ hx_g u.1 u.2 q 63) ∧ (∃ q, u.2.2.2 y 82 = some q ∧ hx_g u.1 u.2 q 108) ∧ (∃ q, u.2.2.2 y 94 = some q ∧ hx_g u.1 u.2 q 114)) (hx_E P_tb (P_ty dA) (dC, dI) vwCl (hx_A L sz)) (hx_A L sz)) ([.ref y] : List Value).toArray s 67 15340 (hx_A L sz)) (F0 m 777 ls [.ref q_42, .ref y]) := by
  refine lv_dup hx hb dX10_init_777 rfl ?_
  refine lv_bipush (v := 125) hx hb dX10_init_778 (by decide) ?_
  refine lv_bipush (v := 116) hx hb dX10_init_780 (by decide) ?_
  refine hk_bast hx hb hW gq_42 td_57 rfl (by decide) (y := _) rfl dX10_init_782 (fun H locs h_169 eh_169 hW hs => ?_)
  have hs0 := hs
  have gw := gq_42.S hs
  refine lv_dup hx hb dX10_init_783 rfl ?_
  refine lv_bipush (v := 126) hx hb dX10_init_784 (by decide) ?_
  refine lv_bipush (v := 97) hx hb dX10_init_786 (by decide) ?_
  refine hk_bast hx hb hW gw td_57 rfl (by decide) (y := _) rfl dX10_init_788 (fun H locs h_170 eh_170 hW hs => ?_)
  have hs0 := hs0.tr hs
  have gw := gw.S hs
  refine lv_dup hx hb dX10_init_789 rfl ?_
  refine lv_bipush (v := 127) hx hb dX10_init_790 (by decide) ?_
  refine lv_bipush (v := 103) hx hb dX10_init_792 (by decide) ?_
  refine hk_bast hx hb hW gw td_57 rfl (by decide) (y := _) rfl dX10_init_794 (fun H locs h_171 eh_171 hW hs => ?_)
  have hs0 := hs0.tr hs
  have gw := gw.S hs
  refine lv_dup hx hb dX10_init_795 rfl ?_
  refine lv_sipush (v := 128) hx hb dX10_init_796 (by decide) ?_
  refine lv_bipush (v := 101) hx hb dX10_init_799 (by decide) ?_
  refine hk_bast hx hb hW gw td_57 rfl (by decide) (y := _) rfl dX10_init_801 (fun H locs h_172 eh_172 hW hs => ?_)
  have hs0 := hs0.tr hs
  have gw := gw.S hs
  refine lv_dup hx hb dX10_init_802 rfl ?_
  refine lv_sipush (v := 129) hx hb dX10_init_803 (by decide) ?_
  refine lv_iconst (v := 0) hx hb dX10_init_806 (by decide) ?_
  refine hk_bast hx hb hW gw td_57 rfl (by decide) (y := _) rfl dX10_init_807 (fun H locs h_173 eh_173 hW hs => ?_)
  have hs0 := hs0.tr hs
  have gw := gw.S hs
  refine lv_dup hx hb dX10_init_808 rfl ?_
  refine lv_sipush (v := 130) hx hb dX10_init_809 (by decide) ?_
  refine lv_iconst (v := 0) hx hb dX10_init_812 (by decide) ?_
  refine hk_bast hx hb hW gw td_57 rfl (by decide) (y := _) rfl dX10_init_813 (fun H locs h_174 eh_174 hW hs => ?_)
  have hs0 := hs0.tr hs
  have gw := gw.S hs
  refine lv_dup hx hb dX10_init_814 rfl ?_
  refine lv_sipush (v := 131) hx hb dX10_init_815 (by decide) ?_
  refine lv_iconst (v := 0) hx hb dX10_init_818 (by decide) ?_
  refine hk_bast hx hb hW gw td_57 rfl (by decide) (y := _) rfl dX10_init_819 (fun H locs h_175 eh_175 hW hs => ?_)
  have hs0 := hs0.tr hs
  have gw := gw.S hs
  refine lv_dup hx hb dX10_init_820 rfl ?_
  refine lv_sipush (v := 132) hx hb dX10_init_821 (by decide) ?_
  refine lv_iconst (v := 0) hx hb dX10_init_824 (by decide) ?_
  refine hk_bast hx hb hW gw td_57 rfl (by decide) (y := _) rfl dX10_init_825 (fun H locs h_176 eh_176 hW hs => ?_)
  have hs0 := hs0.tr hs
  have gw := gw.S hs
  refine lv_dup hx hb dX10_init_826 rfl ?_
  refine lv_sipush (v := 133) hx hb dX10_init_827 (by decide) ?_
  refine lv_bipush (v := 99) hx hb dX10_init_830 (by decide) ?_
  refine hk_bast hx hb hW gw td_57 rfl (by decide) (y := _) rfl dX10_init_832 (fun H locs h_177 eh_177 hW hs => ?_)
  have hs0 := hs0.tr hs
  have gw := gw.S hs
  refine lv_dup hx hb dX10_init_833 rfl ?_
  refine lv_sipush (v := 134) hx hb dX10_init_834 (by decide) ?_
  refine lv_bipush (v := 111) hx hb dX10_init_837 (by decide) ?_
  refine hk_bast hx hb hW gw td_57 rfl (by decide) (y := _) rfl dX10_init_839 (fun H locs h_178 eh_178 hW hs => ?_)
  have hs0 := hs0.tr hs
  have gw := gw.S hs
  refine lv_dup hx hb dX10_init_840 rfl ?_
  refine lv_sipush (v := 135) hx hb dX10_init_841 (by decide) ?_
  refine lv_bipush (v := 115) hx hb dX10_init_844 (by decide) ?_
  refine hk_bast hx hb hW gw td_57 rfl (by decide) (y := _) rfl dX10_init_846 (fun H locs h_179 eh_179 hW hs => ?_)
  have hs0 := hs0.tr hs
  have gw := gw.S hs
  refine lv_dup hx hb dX10_init_847 rfl ?_
  refine lv_sipush (v := 136) hx hb dX10_init_848 (by decide) ?_
  refine lv_bipush (v := 116) hx hb dX10_init_851 (by decide) ?_
  refine hk_bast hx hb hW gw td_57 rfl (by decide) (y := _) rfl dX10_init_853 (fun H locs h_180 eh_180 hW hs => ?_)
  have hs0 := hs0.tr hs
  have gw := gw.S hs
  refine lv_dup hx hb dX10_init_854 rfl ?_
  refine lv_sipush (v := 137) hx hb dX10_init_855 (by decide) ?_
  refine lv_iconst (v := 0) hx hb dX10_init_858 (by decide) ?_
  refine hk_bast hx hb hW gw td_57 rfl (by decide) (y := _) rfl dX10_init_859 (fun H locs h_181 eh_181 hW hs => ?_)
  have hs0 := hs0.tr hs
  have gw := gw.S hs
  refine lv_dup hx hb dX10_init_860 rfl ?_
  refine lv_sipush (v := 138) hx hb dX10_init_861 (by decide) ?_
  refine lv_iconst (v := 0) hx hb dX10_init_864 (by decide) ?_
  refine hk_bast hx hb hW gw td_57 rfl (by decide) (y := _) rfl dX10_init_865 (fun H locs h_182 eh_182 hW hs => ?_)
  have hs0 := hs0.tr hs
  have gw := gw.S hs
  refine lv_dup hx hb dX10_init_866 rfl ?_
  refine lv_sipush (v := 139) hx hb dX10_init_867 (by decide) ?_
  refine lv_iconst (v := 0) hx hb dX10_init_870 (by decide) ?_
  refine hk_bast hx hb hW gw td_57 rfl (by decide) (y := _) rfl dX10_init_871 (fun H locs h_183 eh_183 hW hs => ?_)
  have hs0 := hs0.tr hs
  have gw := gw.S hs
  refine lv_dup hx hb dX10_init_872 rfl ?_
  refine lv_sipush (v := 140) hx hb dX10_init_873 (by decide) ?_
  refine lv_bipush (v := 112) hx hb dX10_init_876 (by decide) ?_
  refine hk_bast hx hb hW gw td_57 rfl (by decide) (y := _) rfl dX10_init_878 (fun H locs h_184 eh_184 hW hs => ?_)
  have hs0 := hs0.tr hs
  have gw := gw.S hs
  refine lv_dup hx hb dX10_init_879 rfl ?_
  refine lv_sipush (v := 141) hx hb dX10_init_880 (by decide) ?_
  refine lv_bipush (v := 114) hx hb dX10_init_883 (by decide) ?_
  refine hk_bast hx hb hW gw td_57 rfl (by decide) (y := _) rfl dX10_init_885 (fun H locs h_185 eh_185 hW hs => ?_)
  have hs0 := hs0.tr hs
  have gw := gw.S hs
  refine lv_dup hx hb dX10_init_886 rfl ?_
  refine lv_sipush (v := 142) hx hb dX10_init_887 (by decide) ?_
  refine lv_bipush (v := 111) hx hb dX10_init_890 (by decide) ?_
  refine hk_bast hx hb hW gw td_57 rfl (by decide) (y := _) rfl dX10_init_892 (fun H locs h_186 eh_186 hW hs => ?_)
  have hs0 := hs0.tr hs
  have gw := gw.S hs
  refine lv_dup hx hb dX10_init_893 rfl ?_
  refine lv_sipush (v := 143) hx hb dX10_init_894 (by decide) ?_
  refine lv_bipush (v := 118) hx hb dX10_init_897 (by decide) ?_
  refine hk_bast hx hb hW gw td_57 rfl (by decide) (y := _) rfl dX10_init_899 (fun H locs h_187 eh_187 hW hs => ?_)
  have hs0 := hs0.tr hs
  have gw := gw.S hs
  refine lv_dup hx hb dX10_init_900 rfl ?_
  refine lv_sipush (v := 144) hx hb dX10_init_901 (by decide) ?_
  refine lv_bipush (v := 101) hx hb dX10_init_904 (by decide) ?_
  refine hk_bast hx hb hW gw td_57 rfl (by decide) (y := _) rfl dX10_init_906 (fun H locs h_188 eh_188 hW hs => ?_)
  have hs0 := hs0.tr hs
  have gw := gw.S hs
  refine lv_dup hx hb dX10_init_907 rfl ?_
  refine lv_sipush (v := 145) hx hb dX10_init_908 (by decide) ?_
  refine lv_iconst (v := 0) hx hb dX10_init_911 (by decide) ?_
  refine hk_bast hx hb hW gw td_57 rfl (by decide) (y := _) rfl dX10_init_912 (fun H locs h_189 eh_189 hW hs => ?_)
  have hs0 := hs0.tr hs
  have gw := gw.S hs
  refine lv_dup hx hb dX10_init_913 rfl ?_
  refine lv_sipush (v := 146) hx hb dX10_init_914 (by decide) ?_
  refine lv_iconst (v := 0) hx hb dX10_init_917 (by decide) ?_
  refine hk_bast hx hb hW gw td_57 rfl (by decide) (y := _) rfl dX10_init_918 (fun H locs h_190 eh_190 hW hs => ?_)
  have hs0 := hs0.tr hs
  have gw := gw.S hs
  refine lv_dup hx hb dX10_init_919 rfl ?_
  refine lv_sipush (v := 147) hx hb dX10_init_920 (by decide) ?_
  refine lv_bipush (v := 115) hx hb dX10_init_923 (by decide) ?_
  refine hk_bast hx hb hW gw td_57 rfl (by decide) (y := _) rfl dX10_init_925 (fun H locs h_191 eh_191 hW hs => ?_)
  have hs0 := hs0.tr hs
  have gw := gw.S hs
  refine lv_dup hx hb dX10_init_926 rfl ?_
  refine lv_sipush (v := 148) hx hb dX10_init_927 (by decide) ?_
  refine lv_bipush (v := 117) hx hb dX10_init_930 (by decide) ?_
  refine hk_bast hx hb hW gw td_57 rfl (by decide) (y := _) rfl dX10_init_932 (fun H locs h_192 eh_192 hW hs => ?_)
  have hs0 := hs0.tr hs
  have gw := gw.S hs
  refine lv_dup hx hb dX10_init_933 rfl ?_
  refine lv_sipush (v := 149) hx hb dX10_init_934 (by decide) ?_
  refine lv_bipush (v := 109) hx hb dX10_init_937 (by decide) ?_
  refine hk_bast hx hb hW gw td_57 rfl (by decide) (y := _) rfl dX10_init_939 (fun H locs h_193 eh_193 hW hs => ?_)
  have hs0 := hs0.tr hs
  have gw := gw.S hs
  refine lv_dup hx hb dX10_init_940 rfl ?_
  refine lv_sipush (v := 150) hx hb dX10_init_941 (by decide) ?_
  refine lv_bipush (v := 109) hx hb dX10_init_944 (by decide) ?_
  refine hk_bast hx hb hW gw td_57 rfl (by decide) (y := _) rfl dX10_init_946 (fun H locs h_194 eh_194 hW hs => ?_)
  have hs0 := hs0.tr hs
  have gw := gw.S hs
  refine lv_dup hx hb dX10_init_947 rfl ?_
  refine lv_sipush (v := 151) hx hb dX10_init_948 (by decide) ?_
  refine lv_bipush (v := 111) hx hb dX10_init_951 (by decide) ?_
  refine hk_bast hx hb hW gw td_57 rfl (by decide) (y := _) rfl dX10_init_953 (fun H locs h_195 eh_195 hW hs => ?_)
  have hs0 := hs0.tr hs
  have gw := gw.S hs
  have hs := hs0
  have f_5 := (hs.o gy trivial rfl).2.trans f_5
  have f_10 := (hs.o gy trivial rfl).2.trans f_10
  have f_15 := (hs.o gy trivial rfl).2.trans f_15
  have f_20 := (hs.o gy trivial rfl).2.trans f_20
  have f_25 := (hs.o gy trivial rfl).2.trans f_25
  have f_30 := (hs.o gy trivial rfl).2.trans f_30
  have f_35 := (hs.o gy trivial rfl).2.trans f_35
  have hM := hM.tr (hs.mono (by decide))
  have gy := gy.S hs
  have gq_2 := gq_2.S hs
  have gq_7 := gq_7.S hs
  have gq_12 := gq_12.S hs
  have gq_17 := gq_17.S hs
  have gq_22 := gq_22.S hs
  have gq_27 := gq_27.S hs
  have gq_32 := gq_32.S hs
  have gq_42 := gq_42.S hs
  refine W.widen (k := 9) (n := 2131) (Nat.le_of_ble_eq_true rfl) (Nat.le_of_ble_eq_true rfl) ?_
  exact sg_X10_init_6 l dC dI dA L h sz y q_2 q_7 q_12 q_17 q_22 q_27 q_32 q_42 hx hb hml hr hlk hts hown hin hsz L1 h_195 _ _ ls hW hM f_5 f_10 f_15 f_20 f_25 f_30 f_35  gy gq_2 gq_7 gq_12 gq_17 gq_22 gq_27 gq_32 gq_42 hl

set_option maxHeartbeats 4000000 in
set_option maxRecDepth 100000 in
theorem sg_X10_init_4 (l : Launch) (dC : Nat → ClassId) (dI : Nat → Nat → Nat) (dA : Nat → ClassId) (L : List Nat) (h : hx_h) (sz : Nat) (y : Nat) (q_2 q_7 q_12 q_17 q_22 q_27 q_32 q_42 : Nat) {p : Program} {e : Env} {s : State} {m : MethodId} {below : List Frame} {meth : Method} {c : Code} (hx : p.tables.exec = Jvm.exec) (hb : c.code = cX10_init) (hml : c.maxLocals = 2) (hr : meth.sig.returnType = none) (hlk : meth.locks = false) (hts : ∀ w ∈ hx_all, w.before ([.ref y] : List Value).toArray s = true) (hown : s.vm.findClass "SmallCourtModel" = some m.cls) (hin : meth.name = "<init>") (hsz : s.heap.size = sz) (L1 : List Nat) (hl1 : hx_h) (H : Heap) (locs : List Loc) (ls : Array Slot) (hW : hx_W P_tb (P_ty dA) (dC, dI) vwCl (hx_A L sz) s.heap L1 hl1 s H locs) (hM : hx_S P_tb [(10, 2), (10, 3), (10, 4), (10, 5), (10, 6), (10, 12), (10, 14), (10, 15), (10, 16), (10, 17), (10, 18), (10, 19), (10, 21), (10, 22), (10, 23), (10, 24), (10, 25), (10, 26), (10, 27), (10, 28), (10, 30), (10, 31), (10, 32), (10, 33), (10, 34), (10, 35), (10, 37), (10, 38), (10, 39), (10, 40), (10, 41), (10, 42), (10, 43), (10, 44), (10, 45), (10, 46), (10, 47), (10, 48), (10, 49), (10, 50), (10, 51), (10, 52), (10, 53), (10, 54), (10, 55), (10, 56), (10, 58), (10, 60), (10, 61), (10, 62), (10, 63), (10, 64), (10, 65), (10, 66), (10, 73), (10, 74), (10, 76), (10, 77), (10, 78), (10, 79), (10, 80), (10, 81), (10, 82), (10, 85), (10, 88), (10, 89), (10, 91), (10, 93), (10, 94), (10, 97), (50, 0), (51, 0), (52, 0), (55, 0), (57, 0)] L h L1 hl1) (f_5 : hl1.2.2 y 2 = some q_2) (f_10 : hl1.2.2 y 3 = some q_7) (f_15 : hl1.2.2 y 4 = some q_12) (f_20 : hl1.2.2 y 5 = some q_17) (f_25 : hl1.2.2 y 6 = some q_22) (f_30 : hl1.2.2 y 12 = some q_27) (f_35 : hl1.2.2 y 15 = some q_32)  (gy : hx_g L1 hl1 y 10) (gq_2 : hx_g L1 hl1 q_2 49) (gq_7 : hx_g L1 hl1 q_7 50) (gq_12 : hx_g L1 hl1 q_12 51) (gq_17 : hx_g L1 hl1 q_17 52) (gq_22 : hx_g L1 hl1 q_22 53) (gq_27 : hx_g L1 hl1 q_27 54) (gq_32 : hx_g L1 hl1 q_32 55) (gq_42 : hx_g L1 hl1 q_42 57) (hl : lv_has ls 2 [(0, .ref y)]) : W p l e ({ frames := 2, cells := 67, slots := 15340, locals := 42 }) s m ([.ref y] : List Value).toArray below meth c H locs 9 2131 (MQ below (va_Qv (fun (u : List Nat × hx_h) => hx_S P_tb [(10, 2), (10, 3), (10, 4), (10, 5), (10, 6), (10, 12), (10, 14), (10, 15), (10, 16), (10, 17), (10, 18), (10, 19), (10, 21), (10, 22), (10, 23), (10, 24), (10, 25), (10, 26), (10, 27), (10, 28), (10, 30), (10, 31), (10, 32), (10, 33), (10, 34), (10, 35), (10, 37), (10, 38), (10, 39), (10, 40), (10, 41), (10, 42), (10, 43), (10, 44), (10, 45), (10, 46), (10, 47), (10, 48), (10, 49), (10, 50), (10, 51), (10, 52), (10, 53), (10, 54), (10, 55), (10, 56), (10, 58), (10, 60), (10, 61), (10, 62), (10, 63), (10, 64), (10, 65), (10, 66), (10, 73), (10, 74), (10, 76), (10, 77), (10, 78), (10, 79), (10, 80), (10, 81), (10, 82), (10, 85), (10, 88), (10, 89), (10, 91), (10, 93), (10, 94), (10, 97), (50, 0), (51, 0), (52, 0), (55, 0), (57, 0)] L h u.1 u.2 ∧ (∃ q, u.2.2.2 y 2 = some q ∧ hx_g u.1 u.2 q 49) ∧ (∃ q, u.2.2.2 y 3 = some q ∧ hx_g u.1 u.2 q 50 ∧ (∀ j, j < 13 → u.2.2.1 q j = P_w1 j)) ∧ (∃ q, u.2.2.2 y 4 = some q ∧ hx_g u.1 u.2 q 51) ∧ (∃ q, u.2.2.2 y 5 = some q ∧ hx_g u.1 u.2 q 52) ∧ (∃ q, u.2.2.2 y 6 = some q ∧ hx_g u.1 u.2 q 53) ∧ (∃ q, u.2.2.2 y 12 = some q ∧ hx_g u.1 u.2 q 54) ∧ (∃ q, u.2.2.2 y 15 = some q ∧ hx_g u.1 u.2 q 55) ∧ (∃ q, u.2.2.2 y 21 = some q ∧ hx_g u.1 u.2 q 58) ∧ (∃ q, u.2.2.2 y 22 = some q ∧ hx_g u.1 u.2 q 59) ∧ (∃ q, u.2.2.2 y 23 = some q ∧ hx_g u.1 u.2 q 60) ∧ (∃ q, u.2.2.2 y 24 = some q ∧ hx_g u.1 u.2 q 61) ∧ (∃ q, u.2.2.2 y 25 = some q ∧ hx_g u.1 u.2 q 62) ∧ (∃ q, u.2.2.2 y 26 = some q ∧ hx_g u.1 u.2 q 63) ∧ (∃ q, u.2.2.2 y 82 = some q ∧ hx_g u.1 u.2 q 108) ∧ (∃ q, u.2.2.2 y 94 = some q ∧ hx_g u.1 u.2 q 114)) (hx_E P_tb (P_ty dA) (dC, dI) vwCl (hx_A L sz)) (hx_A L sz)) ([.ref y] : List Value).toArray s 67 15340 (hx_A L sz)) (F0 m 624 ls [.ref q_42, .ref y]) := by
  refine lv_dup hx hb dX10_init_624 rfl ?_
  refine lv_bipush (v := 98) hx hb dX10_init_625 (by decide) ?_
  refine lv_bipush (v := 107) hx hb dX10_init_627 (by decide) ?_
  refine hk_bast hx hb hW gq_42 td_57 rfl (by decide) (y := _) rfl dX10_init_629 (fun H locs h_142 eh_142 hW hs => ?_)
  have hs0 := hs
  have gw := gq_42.S hs
  refine lv_dup hx hb dX10_init_630 rfl ?_
  refine lv_bipush (v := 99) hx hb dX10_init_631 (by decide) ?_
  refine lv_bipush (v := 101) hx hb dX10_init_633 (by decide) ?_
  refine hk_bast hx hb hW gw td_57 rfl (by decide) (y := _) rfl dX10_init_635 (fun H locs h_143 eh_143 hW hs => ?_)
  have hs0 := hs0.tr hs
  have gw := gw.S hs
  refine lv_dup hx hb dX10_init_636 rfl ?_
  refine lv_bipush (v := 100) hx hb dX10_init_637 (by decide) ?_
  refine lv_bipush (v := 101) hx hb dX10_init_639 (by decide) ?_
  refine hk_bast hx hb hW gw td_57 rfl (by decide) (y := _) rfl dX10_init_641 (fun H locs h_144 eh_144 hW hs => ?_)
  have hs0 := hs0.tr hs
  have gw := gw.S hs
  refine lv_dup hx hb dX10_init_642 rfl ?_
  refine lv_bipush (v := 101) hx hb dX10_init_643 (by decide) ?_
  refine lv_bipush (v := 112) hx hb dX10_init_645 (by decide) ?_
  refine hk_bast hx hb hW gw td_57 rfl (by decide) (y := _) rfl dX10_init_647 (fun H locs h_145 eh_145 hW hs => ?_)
  have hs0 := hs0.tr hs
  have gw := gw.S hs
  refine lv_dup hx hb dX10_init_648 rfl ?_
  refine lv_bipush (v := 102) hx hb dX10_init_649 (by decide) ?_
  refine lv_iconst (v := 0) hx hb dX10_init_651 (by decide) ?_
  refine hk_bast hx hb hW gw td_57 rfl (by decide) (y := _) rfl dX10_init_652 (fun H locs h_146 eh_146 hW hs => ?_)
  have hs0 := hs0.tr hs
  have gw := gw.S hs
  refine lv_dup hx hb dX10_init_653 rfl ?_
  refine lv_bipush (v := 103) hx hb dX10_init_654 (by decide) ?_
  refine lv_iconst (v := 0) hx hb dX10_init_656 (by decide) ?_
  refine hk_bast hx hb hW gw td_57 rfl (by decide) (y := _) rfl dX10_init_657 (fun H locs h_147 eh_147 hW hs => ?_)
  have hs0 := hs0.tr hs
  have gw := gw.S hs
  refine lv_dup hx hb dX10_init_658 rfl ?_
  refine lv_bipush (v := 104) hx hb dX10_init_659 (by decide) ?_
  refine lv_iconst (v := 0) hx hb dX10_init_661 (by decide) ?_
  refine hk_bast hx hb hW gw td_57 rfl (by decide) (y := _) rfl dX10_init_662 (fun H locs h_148 eh_148 hW hs => ?_)
  have hs0 := hs0.tr hs
  have gw := gw.S hs
  refine lv_dup hx hb dX10_init_663 rfl ?_
  refine lv_bipush (v := 105) hx hb dX10_init_664 (by decide) ?_
  refine lv_bipush (v := 108) hx hb dX10_init_666 (by decide) ?_
  refine hk_bast hx hb hW gw td_57 rfl (by decide) (y := _) rfl dX10_init_668 (fun H locs h_149 eh_149 hW hs => ?_)
  have hs0 := hs0.tr hs
  have gw := gw.S hs
  refine lv_dup hx hb dX10_init_669 rfl ?_
  refine lv_bipush (v := 106) hx hb dX10_init_670 (by decide) ?_
  refine lv_bipush (v := 97) hx hb dX10_init_672 (by decide) ?_
  refine hk_bast hx hb hW gw td_57 rfl (by decide) (y := _) rfl dX10_init_674 (fun H locs h_150 eh_150 hW hs => ?_)
  have hs0 := hs0.tr hs
  have gw := gw.S hs
  refine lv_dup hx hb dX10_init_675 rfl ?_
  refine lv_bipush (v := 107) hx hb dX10_init_676 (by decide) ?_
  refine lv_bipush (v := 116) hx hb dX10_init_678 (by decide) ?_
  refine hk_bast hx hb hW gw td_57 rfl (by decide) (y := _) rfl dX10_init_680 (fun H locs h_151 eh_151 hW hs => ?_)
  have hs0 := hs0.tr hs
  have gw := gw.S hs
  refine lv_dup hx hb dX10_init_681 rfl ?_
  refine lv_bipush (v := 108) hx hb dX10_init_682 (by decide) ?_
  refine lv_bipush (v := 101) hx hb dX10_init_684 (by decide) ?_
  refine hk_bast hx hb hW gw td_57 rfl (by decide) (y := _) rfl dX10_init_686 (fun H locs h_152 eh_152 hW hs => ?_)
  have hs0 := hs0.tr hs
  have gw := gw.S hs
  refine lv_dup hx hb dX10_init_687 rfl ?_
  refine lv_bipush (v := 109) hx hb dX10_init_688 (by decide) ?_
  refine lv_iconst (v := 0) hx hb dX10_init_690 (by decide) ?_
  refine hk_bast hx hb hW gw td_57 rfl (by decide) (y := _) rfl dX10_init_691 (fun H locs h_153 eh_153 hW hs => ?_)
  have hs0 := hs0.tr hs
  have gw := gw.S hs
  refine lv_dup hx hb dX10_init_692 rfl ?_
  refine lv_bipush (v := 110) hx hb dX10_init_693 (by decide) ?_
  refine lv_iconst (v := 0) hx hb dX10_init_695 (by decide) ?_
  refine hk_bast hx hb hW gw td_57 rfl (by decide) (y := _) rfl dX10_init_696 (fun H locs h_154 eh_154 hW hs => ?_)
  have hs0 := hs0.tr hs
  have gw := gw.S hs
  refine lv_dup hx hb dX10_init_697 rfl ?_
  refine lv_bipush (v := 111) hx hb dX10_init_698 (by decide) ?_
  refine lv_iconst (v := 0) hx hb dX10_init_700 (by decide) ?_
  refine hk_bast hx hb hW gw td_57 rfl (by decide) (y := _) rfl dX10_init_701 (fun H locs h_155 eh_155 hW hs => ?_)
  have hs0 := hs0.tr hs
  have gw := gw.S hs
  refine lv_dup hx hb dX10_init_702 rfl ?_
  refine lv_bipush (v := 112) hx hb dX10_init_703 (by decide) ?_
  refine lv_bipush (v := 103) hx hb dX10_init_705 (by decide) ?_
  refine hk_bast hx hb hW gw td_57 rfl (by decide) (y := _) rfl dX10_init_707 (fun H locs h_156 eh_156 hW hs => ?_)
  have hs0 := hs0.tr hs
  have gw := gw.S hs
  refine lv_dup hx hb dX10_init_708 rfl ?_
  refine lv_bipush (v := 113) hx hb dX10_init_709 (by decide) ?_
  refine lv_bipush (v := 97) hx hb dX10_init_711 (by decide) ?_
  refine hk_bast hx hb hW gw td_57 rfl (by decide) (y := _) rfl dX10_init_713 (fun H locs h_157 eh_157 hW hs => ?_)
  have hs0 := hs0.tr hs
  have gw := gw.S hs
  refine lv_dup hx hb dX10_init_714 rfl ?_
  refine lv_bipush (v := 114) hx hb dX10_init_715 (by decide) ?_
  refine lv_bipush (v := 111) hx hb dX10_init_717 (by decide) ?_
  refine hk_bast hx hb hW gw td_57 rfl (by decide) (y := _) rfl dX10_init_719 (fun H locs h_158 eh_158 hW hs => ?_)
  have hs0 := hs0.tr hs
  have gw := gw.S hs
  refine lv_dup hx hb dX10_init_720 rfl ?_
  refine lv_bipush (v := 115) hx hb dX10_init_721 (by decide) ?_
  refine lv_bipush (v := 108) hx hb dX10_init_723 (by decide) ?_
  refine hk_bast hx hb hW gw td_57 rfl (by decide) (y := _) rfl dX10_init_725 (fun H locs h_159 eh_159 hW hs => ?_)
  have hs0 := hs0.tr hs
  have gw := gw.S hs
  refine lv_dup hx hb dX10_init_726 rfl ?_
  refine lv_bipush (v := 116) hx hb dX10_init_727 (by decide) ?_
  refine lv_iconst (v := 0) hx hb dX10_init_729 (by decide) ?_
  refine hk_bast hx hb hW gw td_57 rfl (by decide) (y := _) rfl dX10_init_730 (fun H locs h_160 eh_160 hW hs => ?_)
  have hs0 := hs0.tr hs
  have gw := gw.S hs
  refine lv_dup hx hb dX10_init_731 rfl ?_
  refine lv_bipush (v := 117) hx hb dX10_init_732 (by decide) ?_
  refine lv_iconst (v := 0) hx hb dX10_init_734 (by decide) ?_
  refine hk_bast hx hb hW gw td_57 rfl (by decide) (y := _) rfl dX10_init_735 (fun H locs h_161 eh_161 hW hs => ?_)
  have hs0 := hs0.tr hs
  have gw := gw.S hs
  refine lv_dup hx hb dX10_init_736 rfl ?_
  refine lv_bipush (v := 118) hx hb dX10_init_737 (by decide) ?_
  refine lv_iconst (v := 0) hx hb dX10_init_739 (by decide) ?_
  refine hk_bast hx hb hW gw td_57 rfl (by decide) (y := _) rfl dX10_init_740 (fun H locs h_162 eh_162 hW hs => ?_)
  have hs0 := hs0.tr hs
  have gw := gw.S hs
  refine lv_dup hx hb dX10_init_741 rfl ?_
  refine lv_bipush (v := 119) hx hb dX10_init_742 (by decide) ?_
  refine lv_bipush (v := 108) hx hb dX10_init_744 (by decide) ?_
  refine hk_bast hx hb hW gw td_57 rfl (by decide) (y := _) rfl dX10_init_746 (fun H locs h_163 eh_163 hW hs => ?_)
  have hs0 := hs0.tr hs
  have gw := gw.S hs
  refine lv_dup hx hb dX10_init_747 rfl ?_
  refine lv_bipush (v := 120) hx hb dX10_init_748 (by decide) ?_
  refine lv_bipush (v := 111) hx hb dX10_init_750 (by decide) ?_
  refine hk_bast hx hb hW gw td_57 rfl (by decide) (y := _) rfl dX10_init_752 (fun H locs h_164 eh_164 hW hs => ?_)
  have hs0 := hs0.tr hs
  have gw := gw.S hs
  refine lv_dup hx hb dX10_init_753 rfl ?_
  refine lv_bipush (v := 121) hx hb dX10_init_754 (by decide) ?_
  refine lv_bipush (v := 110) hx hb dX10_init_756 (by decide) ?_
  refine hk_bast hx hb hW gw td_57 rfl (by decide) (y := _) rfl dX10_init_758 (fun H locs h_165 eh_165 hW hs => ?_)
  have hs0 := hs0.tr hs
  have gw := gw.S hs
  refine lv_dup hx hb dX10_init_759 rfl ?_
  refine lv_bipush (v := 122) hx hb dX10_init_760 (by decide) ?_
  refine lv_bipush (v := 103) hx hb dX10_init_762 (by decide) ?_
  refine hk_bast hx hb hW gw td_57 rfl (by decide) (y := _) rfl dX10_init_764 (fun H locs h_166 eh_166 hW hs => ?_)
  have hs0 := hs0.tr hs
  have gw := gw.S hs
  refine lv_dup hx hb dX10_init_765 rfl ?_
  refine lv_bipush (v := 123) hx hb dX10_init_766 (by decide) ?_
  refine lv_bipush (v := 101) hx hb dX10_init_768 (by decide) ?_
  refine hk_bast hx hb hW gw td_57 rfl (by decide) (y := _) rfl dX10_init_770 (fun H locs h_167 eh_167 hW hs => ?_)
  have hs0 := hs0.tr hs
  have gw := gw.S hs
  refine lv_dup hx hb dX10_init_771 rfl ?_
  refine lv_bipush (v := 124) hx hb dX10_init_772 (by decide) ?_
  refine lv_bipush (v := 115) hx hb dX10_init_774 (by decide) ?_
  refine hk_bast hx hb hW gw td_57 rfl (by decide) (y := _) rfl dX10_init_776 (fun H locs h_168 eh_168 hW hs => ?_)
  have hs0 := hs0.tr hs
  have gw := gw.S hs
  have hs := hs0
  have f_5 := (hs.o gy trivial rfl).2.trans f_5
  have f_10 := (hs.o gy trivial rfl).2.trans f_10
  have f_15 := (hs.o gy trivial rfl).2.trans f_15
  have f_20 := (hs.o gy trivial rfl).2.trans f_20
  have f_25 := (hs.o gy trivial rfl).2.trans f_25
  have f_30 := (hs.o gy trivial rfl).2.trans f_30
  have f_35 := (hs.o gy trivial rfl).2.trans f_35
  have hM := hM.tr (hs.mono (by decide))
  have gy := gy.S hs
  have gq_2 := gq_2.S hs
  have gq_7 := gq_7.S hs
  have gq_12 := gq_12.S hs
  have gq_17 := gq_17.S hs
  have gq_22 := gq_22.S hs
  have gq_27 := gq_27.S hs
  have gq_32 := gq_32.S hs
  have gq_42 := gq_42.S hs
  refine W.widen (k := 9) (n := 2131) (Nat.le_of_ble_eq_true rfl) (Nat.le_of_ble_eq_true rfl) ?_
  exact sg_X10_init_5 l dC dI dA L h sz y q_2 q_7 q_12 q_17 q_22 q_27 q_32 q_42 hx hb hml hr hlk hts hown hin hsz L1 h_168 _ _ ls hW hM f_5 f_10 f_15 f_20 f_25 f_30 f_35  gy gq_2 gq_7 gq_12 gq_17 gq_22 gq_27 gq_32 gq_42 hl

set_option maxHeartbeats 4000000 in
set_option maxRecDepth 100000 in
theorem sg_X10_init_3 (l : Launch) (dC : Nat → ClassId) (dI : Nat → Nat → Nat) (dA : Nat → ClassId) (L : List Nat) (h : hx_h) (sz : Nat) (y : Nat) (q_2 q_7 q_12 q_17 q_22 q_27 q_32 q_42 : Nat) {p : Program} {e : Env} {s : State} {m : MethodId} {below : List Frame} {meth : Method} {c : Code} (hx : p.tables.exec = Jvm.exec) (hb : c.code = cX10_init) (hml : c.maxLocals = 2) (hr : meth.sig.returnType = none) (hlk : meth.locks = false) (hts : ∀ w ∈ hx_all, w.before ([.ref y] : List Value).toArray s = true) (hown : s.vm.findClass "SmallCourtModel" = some m.cls) (hin : meth.name = "<init>") (hsz : s.heap.size = sz) (L1 : List Nat) (hl1 : hx_h) (H : Heap) (locs : List Loc) (ls : Array Slot) (hW : hx_W P_tb (P_ty dA) (dC, dI) vwCl (hx_A L sz) s.heap L1 hl1 s H locs) (hM : hx_S P_tb [(10, 2), (10, 3), (10, 4), (10, 5), (10, 6), (10, 12), (10, 14), (10, 15), (10, 16), (10, 17), (10, 18), (10, 19), (10, 21), (10, 22), (10, 23), (10, 24), (10, 25), (10, 26), (10, 27), (10, 28), (10, 30), (10, 31), (10, 32), (10, 33), (10, 34), (10, 35), (10, 37), (10, 38), (10, 39), (10, 40), (10, 41), (10, 42), (10, 43), (10, 44), (10, 45), (10, 46), (10, 47), (10, 48), (10, 49), (10, 50), (10, 51), (10, 52), (10, 53), (10, 54), (10, 55), (10, 56), (10, 58), (10, 60), (10, 61), (10, 62), (10, 63), (10, 64), (10, 65), (10, 66), (10, 73), (10, 74), (10, 76), (10, 77), (10, 78), (10, 79), (10, 80), (10, 81), (10, 82), (10, 85), (10, 88), (10, 89), (10, 91), (10, 93), (10, 94), (10, 97), (50, 0), (51, 0), (52, 0), (55, 0), (57, 0)] L h L1 hl1) (f_5 : hl1.2.2 y 2 = some q_2) (f_10 : hl1.2.2 y 3 = some q_7) (f_15 : hl1.2.2 y 4 = some q_12) (f_20 : hl1.2.2 y 5 = some q_17) (f_25 : hl1.2.2 y 6 = some q_22) (f_30 : hl1.2.2 y 12 = some q_27) (f_35 : hl1.2.2 y 15 = some q_32)  (gy : hx_g L1 hl1 y 10) (gq_2 : hx_g L1 hl1 q_2 49) (gq_7 : hx_g L1 hl1 q_7 50) (gq_12 : hx_g L1 hl1 q_12 51) (gq_17 : hx_g L1 hl1 q_17 52) (gq_22 : hx_g L1 hl1 q_22 53) (gq_27 : hx_g L1 hl1 q_27 54) (gq_32 : hx_g L1 hl1 q_32 55) (gq_42 : hx_g L1 hl1 q_42 57) (hl : lv_has ls 2 [(0, .ref y)]) : W p l e ({ frames := 2, cells := 67, slots := 15340, locals := 42 }) s m ([.ref y] : List Value).toArray below meth c H locs 9 2131 (MQ below (va_Qv (fun (u : List Nat × hx_h) => hx_S P_tb [(10, 2), (10, 3), (10, 4), (10, 5), (10, 6), (10, 12), (10, 14), (10, 15), (10, 16), (10, 17), (10, 18), (10, 19), (10, 21), (10, 22), (10, 23), (10, 24), (10, 25), (10, 26), (10, 27), (10, 28), (10, 30), (10, 31), (10, 32), (10, 33), (10, 34), (10, 35), (10, 37), (10, 38), (10, 39), (10, 40), (10, 41), (10, 42), (10, 43), (10, 44), (10, 45), (10, 46), (10, 47), (10, 48), (10, 49), (10, 50), (10, 51), (10, 52), (10, 53), (10, 54), (10, 55), (10, 56), (10, 58), (10, 60), (10, 61), (10, 62), (10, 63), (10, 64), (10, 65), (10, 66), (10, 73), (10, 74), (10, 76), (10, 77), (10, 78), (10, 79), (10, 80), (10, 81), (10, 82), (10, 85), (10, 88), (10, 89), (10, 91), (10, 93), (10, 94), (10, 97), (50, 0), (51, 0), (52, 0), (55, 0), (57, 0)] L h u.1 u.2 ∧ (∃ q, u.2.2.2 y 2 = some q ∧ hx_g u.1 u.2 q 49) ∧ (∃ q, u.2.2.2 y 3 = some q ∧ hx_g u.1 u.2 q 50 ∧ (∀ j, j < 13 → u.2.2.1 q j = P_w1 j)) ∧ (∃ q, u.2.2.2 y 4 = some q ∧ hx_g u.1 u.2 q 51) ∧ (∃ q, u.2.2.2 y 5 = some q ∧ hx_g u.1 u.2 q 52) ∧ (∃ q, u.2.2.2 y 6 = some q ∧ hx_g u.1 u.2 q 53) ∧ (∃ q, u.2.2.2 y 12 = some q ∧ hx_g u.1 u.2 q 54) ∧ (∃ q, u.2.2.2 y 15 = some q ∧ hx_g u.1 u.2 q 55) ∧ (∃ q, u.2.2.2 y 21 = some q ∧ hx_g u.1 u.2 q 58) ∧ (∃ q, u.2.2.2 y 22 = some q ∧ hx_g u.1 u.2 q 59) ∧ (∃ q, u.2.2.2 y 23 = some q ∧ hx_g u.1 u.2 q 60) ∧ (∃ q, u.2.2.2 y 24 = some q ∧ hx_g u.1 u.2 q 61) ∧ (∃ q, u.2.2.2 y 25 = some q ∧ hx_g u.1 u.2 q 62) ∧ (∃ q, u.2.2.2 y 26 = some q ∧ hx_g u.1 u.2 q 63) ∧ (∃ q, u.2.2.2 y 82 = some q ∧ hx_g u.1 u.2 q 108) ∧ (∃ q, u.2.2.2 y 94 = some q ∧ hx_g u.1 u.2 q 114)) (hx_E P_tb (P_ty dA) (dC, dI) vwCl (hx_A L sz)) (hx_A L sz)) ([.ref y] : List Value).toArray s 67 15340 (hx_A L sz)) (F0 m 470 ls [.ref q_42, .ref y]) := by
  refine lv_dup hx hb dX10_init_470 rfl ?_
  refine lv_bipush (v := 71) hx hb dX10_init_471 (by decide) ?_
  refine lv_bipush (v := 108) hx hb dX10_init_473 (by decide) ?_
  refine hk_bast hx hb hW gq_42 td_57 rfl (by decide) (y := _) rfl dX10_init_475 (fun H locs h_115 eh_115 hW hs => ?_)
  have hs0 := hs
  have gw := gq_42.S hs
  refine lv_dup hx hb dX10_init_476 rfl ?_
  refine lv_bipush (v := 72) hx hb dX10_init_477 (by decide) ?_
  refine lv_bipush (v := 97) hx hb dX10_init_479 (by decide) ?_
  refine hk_bast hx hb hW gw td_57 rfl (by decide) (y := _) rfl dX10_init_481 (fun H locs h_116 eh_116 hW hs => ?_)
  have hs0 := hs0.tr hs
  have gw := gw.S hs
  refine lv_dup hx hb dX10_init_482 rfl ?_
  refine lv_bipush (v := 73) hx hb dX10_init_483 (by decide) ?_
  refine lv_bipush (v := 105) hx hb dX10_init_485 (by decide) ?_
  refine hk_bast hx hb hW gw td_57 rfl (by decide) (y := _) rfl dX10_init_487 (fun H locs h_117 eh_117 hW hs => ?_)
  have hs0 := hs0.tr hs
  have gw := gw.S hs
  refine lv_dup hx hb dX10_init_488 rfl ?_
  refine lv_bipush (v := 74) hx hb dX10_init_489 (by decide) ?_
  refine lv_bipush (v := 109) hx hb dX10_init_491 (by decide) ?_
  refine hk_bast hx hb hW gw td_57 rfl (by decide) (y := _) rfl dX10_init_493 (fun H locs h_118 eh_118 hW hs => ?_)
  have hs0 := hs0.tr hs
  have gw := gw.S hs
  refine lv_dup hx hb dX10_init_494 rfl ?_
  refine lv_bipush (v := 75) hx hb dX10_init_495 (by decide) ?_
  refine lv_bipush (v := 101) hx hb dX10_init_497 (by decide) ?_
  refine hk_bast hx hb hW gw td_57 rfl (by decide) (y := _) rfl dX10_init_499 (fun H locs h_119 eh_119 hW hs => ?_)
  have hs0 := hs0.tr hs
  have gw := gw.S hs
  refine lv_dup hx hb dX10_init_500 rfl ?_
  refine lv_bipush (v := 76) hx hb dX10_init_501 (by decide) ?_
  refine lv_bipush (v := 100) hx hb dX10_init_503 (by decide) ?_
  refine hk_bast hx hb hW gw td_57 rfl (by decide) (y := _) rfl dX10_init_505 (fun H locs h_120 eh_120 hW hs => ?_)
  have hs0 := hs0.tr hs
  have gw := gw.S hs
  refine lv_dup hx hb dX10_init_506 rfl ?_
  refine lv_bipush (v := 77) hx hb dX10_init_507 (by decide) ?_
  refine lv_bipush (v := 109) hx hb dX10_init_509 (by decide) ?_
  refine hk_bast hx hb hW gw td_57 rfl (by decide) (y := _) rfl dX10_init_511 (fun H locs h_121 eh_121 hW hs => ?_)
  have hs0 := hs0.tr hs
  have gw := gw.S hs
  refine lv_dup hx hb dX10_init_512 rfl ?_
  refine lv_bipush (v := 78) hx hb dX10_init_513 (by decide) ?_
  refine lv_bipush (v := 111) hx hb dX10_init_515 (by decide) ?_
  refine hk_bast hx hb hW gw td_57 rfl (by decide) (y := _) rfl dX10_init_517 (fun H locs h_122 eh_122 hW hs => ?_)
  have hs0 := hs0.tr hs
  have gw := gw.S hs
  refine lv_dup hx hb dX10_init_518 rfl ?_
  refine lv_bipush (v := 79) hx hb dX10_init_519 (by decide) ?_
  refine lv_bipush (v := 115) hx hb dX10_init_521 (by decide) ?_
  refine hk_bast hx hb hW gw td_57 rfl (by decide) (y := _) rfl dX10_init_523 (fun H locs h_123 eh_123 hW hs => ?_)
  have hs0 := hs0.tr hs
  have gw := gw.S hs
  refine lv_dup hx hb dX10_init_524 rfl ?_
  refine lv_bipush (v := 80) hx hb dX10_init_525 (by decide) ?_
  refine lv_bipush (v := 116) hx hb dX10_init_527 (by decide) ?_
  refine hk_bast hx hb hW gw td_57 rfl (by decide) (y := _) rfl dX10_init_529 (fun H locs h_124 eh_124 hW hs => ?_)
  have hs0 := hs0.tr hs
  have gw := gw.S hs
  refine lv_dup hx hb dX10_init_530 rfl ?_
  refine lv_bipush (v := 81) hx hb dX10_init_531 (by decide) ?_
  refine lv_iconst (v := 0) hx hb dX10_init_533 (by decide) ?_
  refine hk_bast hx hb hW gw td_57 rfl (by decide) (y := _) rfl dX10_init_534 (fun H locs h_125 eh_125 hW hs => ?_)
  have hs0 := hs0.tr hs
  have gw := gw.S hs
  refine lv_dup hx hb dX10_init_535 rfl ?_
  refine lv_bipush (v := 82) hx hb dX10_init_536 (by decide) ?_
  refine lv_iconst (v := 0) hx hb dX10_init_538 (by decide) ?_
  refine hk_bast hx hb hW gw td_57 rfl (by decide) (y := _) rfl dX10_init_539 (fun H locs h_126 eh_126 hW hs => ?_)
  have hs0 := hs0.tr hs
  have gw := gw.S hs
  refine lv_dup hx hb dX10_init_540 rfl ?_
  refine lv_bipush (v := 83) hx hb dX10_init_541 (by decide) ?_
  refine lv_iconst (v := 0) hx hb dX10_init_543 (by decide) ?_
  refine hk_bast hx hb hW gw td_57 rfl (by decide) (y := _) rfl dX10_init_544 (fun H locs h_127 eh_127 hW hs => ?_)
  have hs0 := hs0.tr hs
  have gw := gw.S hs
  refine lv_dup hx hb dX10_init_545 rfl ?_
  refine lv_bipush (v := 84) hx hb dX10_init_546 (by decide) ?_
  refine lv_bipush (v := 115) hx hb dX10_init_548 (by decide) ?_
  refine hk_bast hx hb hW gw td_57 rfl (by decide) (y := _) rfl dX10_init_550 (fun H locs h_128 eh_128 hW hs => ?_)
  have hs0 := hs0.tr hs
  have gw := gw.S hs
  refine lv_dup hx hb dX10_init_551 rfl ?_
  refine lv_bipush (v := 85) hx hb dX10_init_552 (by decide) ?_
  refine lv_bipush (v := 112) hx hb dX10_init_554 (by decide) ?_
  refine hk_bast hx hb hW gw td_57 rfl (by decide) (y := _) rfl dX10_init_556 (fun H locs h_129 eh_129 hW hs => ?_)
  have hs0 := hs0.tr hs
  have gw := gw.S hs
  refine lv_dup hx hb dX10_init_557 rfl ?_
  refine lv_bipush (v := 86) hx hb dX10_init_558 (by decide) ?_
  refine lv_bipush (v := 108) hx hb dX10_init_560 (by decide) ?_
  refine hk_bast hx hb hW gw td_57 rfl (by decide) (y := _) rfl dX10_init_562 (fun H locs h_130 eh_130 hW hs => ?_)
  have hs0 := hs0.tr hs
  have gw := gw.S hs
  refine lv_dup hx hb dX10_init_563 rfl ?_
  refine lv_bipush (v := 87) hx hb dX10_init_564 (by decide) ?_
  refine lv_bipush (v := 105) hx hb dX10_init_566 (by decide) ?_
  refine hk_bast hx hb hW gw td_57 rfl (by decide) (y := _) rfl dX10_init_568 (fun H locs h_131 eh_131 hW hs => ?_)
  have hs0 := hs0.tr hs
  have gw := gw.S hs
  refine lv_dup hx hb dX10_init_569 rfl ?_
  refine lv_bipush (v := 88) hx hb dX10_init_570 (by decide) ?_
  refine lv_bipush (v := 116) hx hb dX10_init_572 (by decide) ?_
  refine hk_bast hx hb hW gw td_57 rfl (by decide) (y := _) rfl dX10_init_574 (fun H locs h_132 eh_132 hW hs => ?_)
  have hs0 := hs0.tr hs
  have gw := gw.S hs
  refine lv_dup hx hb dX10_init_575 rfl ?_
  refine lv_bipush (v := 89) hx hb dX10_init_576 (by decide) ?_
  refine lv_iconst (v := 0) hx hb dX10_init_578 (by decide) ?_
  refine hk_bast hx hb hW gw td_57 rfl (by decide) (y := _) rfl dX10_init_579 (fun H locs h_133 eh_133 hW hs => ?_)
  have hs0 := hs0.tr hs
  have gw := gw.S hs
  refine lv_dup hx hb dX10_init_580 rfl ?_
  refine lv_bipush (v := 90) hx hb dX10_init_581 (by decide) ?_
  refine lv_iconst (v := 0) hx hb dX10_init_583 (by decide) ?_
  refine hk_bast hx hb hW gw td_57 rfl (by decide) (y := _) rfl dX10_init_584 (fun H locs h_134 eh_134 hW hs => ?_)
  have hs0 := hs0.tr hs
  have gw := gw.S hs
  refine lv_dup hx hb dX10_init_585 rfl ?_
  refine lv_bipush (v := 91) hx hb dX10_init_586 (by decide) ?_
  refine lv_bipush (v := 119) hx hb dX10_init_588 (by decide) ?_
  refine hk_bast hx hb hW gw td_57 rfl (by decide) (y := _) rfl dX10_init_590 (fun H locs h_135 eh_135 hW hs => ?_)
  have hs0 := hs0.tr hs
  have gw := gw.S hs
  refine lv_dup hx hb dX10_init_591 rfl ?_
  refine lv_bipush (v := 92) hx hb dX10_init_592 (by decide) ?_
  refine lv_bipush (v := 101) hx hb dX10_init_594 (by decide) ?_
  refine hk_bast hx hb hW gw td_57 rfl (by decide) (y := _) rfl dX10_init_596 (fun H locs h_136 eh_136 hW hs => ?_)
  have hs0 := hs0.tr hs
  have gw := gw.S hs
  refine lv_dup hx hb dX10_init_597 rfl ?_
  refine lv_bipush (v := 93) hx hb dX10_init_598 (by decide) ?_
  refine lv_bipush (v := 101) hx hb dX10_init_600 (by decide) ?_
  refine hk_bast hx hb hW gw td_57 rfl (by decide) (y := _) rfl dX10_init_602 (fun H locs h_137 eh_137 hW hs => ?_)
  have hs0 := hs0.tr hs
  have gw := gw.S hs
  refine lv_dup hx hb dX10_init_603 rfl ?_
  refine lv_bipush (v := 94) hx hb dX10_init_604 (by decide) ?_
  refine lv_bipush (v := 107) hx hb dX10_init_606 (by decide) ?_
  refine hk_bast hx hb hW gw td_57 rfl (by decide) (y := _) rfl dX10_init_608 (fun H locs h_138 eh_138 hW hs => ?_)
  have hs0 := hs0.tr hs
  have gw := gw.S hs
  refine lv_dup hx hb dX10_init_609 rfl ?_
  refine lv_bipush (v := 95) hx hb dX10_init_610 (by decide) ?_
  refine lv_iconst (v := 0) hx hb dX10_init_612 (by decide) ?_
  refine hk_bast hx hb hW gw td_57 rfl (by decide) (y := _) rfl dX10_init_613 (fun H locs h_139 eh_139 hW hs => ?_)
  have hs0 := hs0.tr hs
  have gw := gw.S hs
  refine lv_dup hx hb dX10_init_614 rfl ?_
  refine lv_bipush (v := 96) hx hb dX10_init_615 (by decide) ?_
  refine lv_iconst (v := 0) hx hb dX10_init_617 (by decide) ?_
  refine hk_bast hx hb hW gw td_57 rfl (by decide) (y := _) rfl dX10_init_618 (fun H locs h_140 eh_140 hW hs => ?_)
  have hs0 := hs0.tr hs
  have gw := gw.S hs
  refine lv_dup hx hb dX10_init_619 rfl ?_
  refine lv_bipush (v := 97) hx hb dX10_init_620 (by decide) ?_
  refine lv_iconst (v := 0) hx hb dX10_init_622 (by decide) ?_
  refine hk_bast hx hb hW gw td_57 rfl (by decide) (y := _) rfl dX10_init_623 (fun H locs h_141 eh_141 hW hs => ?_)
  have hs0 := hs0.tr hs
  have gw := gw.S hs
  have hs := hs0
  have f_5 := (hs.o gy trivial rfl).2.trans f_5
  have f_10 := (hs.o gy trivial rfl).2.trans f_10
  have f_15 := (hs.o gy trivial rfl).2.trans f_15
  have f_20 := (hs.o gy trivial rfl).2.trans f_20
  have f_25 := (hs.o gy trivial rfl).2.trans f_25
  have f_30 := (hs.o gy trivial rfl).2.trans f_30
  have f_35 := (hs.o gy trivial rfl).2.trans f_35
  have hM := hM.tr (hs.mono (by decide))
  have gy := gy.S hs
  have gq_2 := gq_2.S hs
  have gq_7 := gq_7.S hs
  have gq_12 := gq_12.S hs
  have gq_17 := gq_17.S hs
  have gq_22 := gq_22.S hs
  have gq_27 := gq_27.S hs
  have gq_32 := gq_32.S hs
  have gq_42 := gq_42.S hs
  refine W.widen (k := 9) (n := 2131) (Nat.le_of_ble_eq_true rfl) (Nat.le_of_ble_eq_true rfl) ?_
  exact sg_X10_init_4 l dC dI dA L h sz y q_2 q_7 q_12 q_17 q_22 q_27 q_32 q_42 hx hb hml hr hlk hts hown hin hsz L1 h_141 _ _ ls hW hM f_5 f_10 f_15 f_20 f_25 f_30 f_35  gy gq_2 gq_7 gq_12 gq_17 gq_22 gq_27 gq_32 gq_42 hl

set_option maxHeartbeats 4000000 in
set_option maxRecDepth 100000 in
theorem sg_X10_init_2 (l : Launch) (dC : Nat → ClassId) (dI : Nat → Nat → Nat) (dA : Nat → ClassId) (L : List Nat) (h : hx_h) (sz : Nat) (y : Nat) (q_2 q_7 q_12 q_17 q_22 q_27 q_32 q_42 : Nat) {p : Program} {e : Env} {s : State} {m : MethodId} {below : List Frame} {meth : Method} {c : Code} (hx : p.tables.exec = Jvm.exec) (hb : c.code = cX10_init) (hml : c.maxLocals = 2) (hr : meth.sig.returnType = none) (hlk : meth.locks = false) (hts : ∀ w ∈ hx_all, w.before ([.ref y] : List Value).toArray s = true) (hown : s.vm.findClass "SmallCourtModel" = some m.cls) (hin : meth.name = "<init>") (hsz : s.heap.size = sz) (L1 : List Nat) (hl1 : hx_h) (H : Heap) (locs : List Loc) (ls : Array Slot) (hW : hx_W P_tb (P_ty dA) (dC, dI) vwCl (hx_A L sz) s.heap L1 hl1 s H locs) (hM : hx_S P_tb [(10, 2), (10, 3), (10, 4), (10, 5), (10, 6), (10, 12), (10, 14), (10, 15), (10, 16), (10, 17), (10, 18), (10, 19), (10, 21), (10, 22), (10, 23), (10, 24), (10, 25), (10, 26), (10, 27), (10, 28), (10, 30), (10, 31), (10, 32), (10, 33), (10, 34), (10, 35), (10, 37), (10, 38), (10, 39), (10, 40), (10, 41), (10, 42), (10, 43), (10, 44), (10, 45), (10, 46), (10, 47), (10, 48), (10, 49), (10, 50), (10, 51), (10, 52), (10, 53), (10, 54), (10, 55), (10, 56), (10, 58), (10, 60), (10, 61), (10, 62), (10, 63), (10, 64), (10, 65), (10, 66), (10, 73), (10, 74), (10, 76), (10, 77), (10, 78), (10, 79), (10, 80), (10, 81), (10, 82), (10, 85), (10, 88), (10, 89), (10, 91), (10, 93), (10, 94), (10, 97), (50, 0), (51, 0), (52, 0), (55, 0), (57, 0)] L h L1 hl1) (f_5 : hl1.2.2 y 2 = some q_2) (f_10 : hl1.2.2 y 3 = some q_7) (f_15 : hl1.2.2 y 4 = some q_12) (f_20 : hl1.2.2 y 5 = some q_17) (f_25 : hl1.2.2 y 6 = some q_22) (f_30 : hl1.2.2 y 12 = some q_27) (f_35 : hl1.2.2 y 15 = some q_32)  (gy : hx_g L1 hl1 y 10) (gq_2 : hx_g L1 hl1 q_2 49) (gq_7 : hx_g L1 hl1 q_7 50) (gq_12 : hx_g L1 hl1 q_12 51) (gq_17 : hx_g L1 hl1 q_17 52) (gq_22 : hx_g L1 hl1 q_22 53) (gq_27 : hx_g L1 hl1 q_27 54) (gq_32 : hx_g L1 hl1 q_32 55) (gq_42 : hx_g L1 hl1 q_42 57) (hl : lv_has ls 2 [(0, .ref y)]) : W p l e ({ frames := 2, cells := 67, slots := 15340, locals := 42 }) s m ([.ref y] : List Value).toArray below meth c H locs 9 2131 (MQ below (va_Qv (fun (u : List Nat × hx_h) => hx_S P_tb [(10, 2), (10, 3), (10, 4), (10, 5), (10, 6), (10, 12), (10, 14), (10, 15), (10, 16), (10, 17), (10, 18), (10, 19), (10, 21), (10, 22), (10, 23), (10, 24), (10, 25), (10, 26), (10, 27), (10, 28), (10, 30), (10, 31), (10, 32), (10, 33), (10, 34), (10, 35), (10, 37), (10, 38), (10, 39), (10, 40), (10, 41), (10, 42), (10, 43), (10, 44), (10, 45), (10, 46), (10, 47), (10, 48), (10, 49), (10, 50), (10, 51), (10, 52), (10, 53), (10, 54), (10, 55), (10, 56), (10, 58), (10, 60), (10, 61), (10, 62), (10, 63), (10, 64), (10, 65), (10, 66), (10, 73), (10, 74), (10, 76), (10, 77), (10, 78), (10, 79), (10, 80), (10, 81), (10, 82), (10, 85), (10, 88), (10, 89), (10, 91), (10, 93), (10, 94), (10, 97), (50, 0), (51, 0), (52, 0), (55, 0), (57, 0)] L h u.1 u.2 ∧ (∃ q, u.2.2.2 y 2 = some q ∧ hx_g u.1 u.2 q 49) ∧ (∃ q, u.2.2.2 y 3 = some q ∧ hx_g u.1 u.2 q 50 ∧ (∀ j, j < 13 → u.2.2.1 q j = P_w1 j)) ∧ (∃ q, u.2.2.2 y 4 = some q ∧ hx_g u.1 u.2 q 51) ∧ (∃ q, u.2.2.2 y 5 = some q ∧ hx_g u.1 u.2 q 52) ∧ (∃ q, u.2.2.2 y 6 = some q ∧ hx_g u.1 u.2 q 53) ∧ (∃ q, u.2.2.2 y 12 = some q ∧ hx_g u.1 u.2 q 54) ∧ (∃ q, u.2.2.2 y 15 = some q ∧ hx_g u.1 u.2 q 55) ∧ (∃ q, u.2.2.2 y 21 = some q ∧ hx_g u.1 u.2 q 58) ∧ (∃ q, u.2.2.2 y 22 = some q ∧ hx_g u.1 u.2 q 59) ∧ (∃ q, u.2.2.2 y 23 = some q ∧ hx_g u.1 u.2 q 60) ∧ (∃ q, u.2.2.2 y 24 = some q ∧ hx_g u.1 u.2 q 61) ∧ (∃ q, u.2.2.2 y 25 = some q ∧ hx_g u.1 u.2 q 62) ∧ (∃ q, u.2.2.2 y 26 = some q ∧ hx_g u.1 u.2 q 63) ∧ (∃ q, u.2.2.2 y 82 = some q ∧ hx_g u.1 u.2 q 108) ∧ (∃ q, u.2.2.2 y 94 = some q ∧ hx_g u.1 u.2 q 114)) (hx_E P_tb (P_ty dA) (dC, dI) vwCl (hx_A L sz)) (hx_A L sz)) ([.ref y] : List Value).toArray s 67 15340 (hx_A L sz)) (F0 m 316 ls [.ref q_42, .ref y]) := by
  refine lv_dup hx hb dX10_init_316 rfl ?_
  refine lv_bipush (v := 44) hx hb dX10_init_317 (by decide) ?_
  refine lv_bipush (v := 116) hx hb dX10_init_319 (by decide) ?_
  refine hk_bast hx hb hW gq_42 td_57 rfl (by decide) (y := _) rfl dX10_init_321 (fun H locs h_88 eh_88 hW hs => ?_)
  have hs0 := hs
  have gw := gq_42.S hs
  refine lv_dup hx hb dX10_init_322 rfl ?_
  refine lv_bipush (v := 45) hx hb dX10_init_323 (by decide) ?_
  refine lv_bipush (v := 110) hx hb dX10_init_325 (by decide) ?_
  refine hk_bast hx hb hW gw td_57 rfl (by decide) (y := _) rfl dX10_init_327 (fun H locs h_89 eh_89 hW hs => ?_)
  have hs0 := hs0.tr hs
  have gw := gw.S hs
  refine lv_dup hx hb dX10_init_328 rfl ?_
  refine lv_bipush (v := 46) hx hb dX10_init_329 (by decide) ?_
  refine lv_bipush (v := 101) hx hb dX10_init_331 (by decide) ?_
  refine hk_bast hx hb hW gw td_57 rfl (by decide) (y := _) rfl dX10_init_333 (fun H locs h_90 eh_90 hW hs => ?_)
  have hs0 := hs0.tr hs
  have gw := gw.S hs
  refine lv_dup hx hb dX10_init_334 rfl ?_
  refine lv_bipush (v := 47) hx hb dX10_init_335 (by decide) ?_
  refine lv_bipush (v := 115) hx hb dX10_init_337 (by decide) ?_
  refine hk_bast hx hb hW gw td_57 rfl (by decide) (y := _) rfl dX10_init_339 (fun H locs h_91 eh_91 hW hs => ?_)
  have hs0 := hs0.tr hs
  have gw := gw.S hs
  refine lv_dup hx hb dX10_init_340 rfl ?_
  refine lv_bipush (v := 48) hx hb dX10_init_341 (by decide) ?_
  refine lv_bipush (v := 115) hx hb dX10_init_343 (by decide) ?_
  refine hk_bast hx hb hW gw td_57 rfl (by decide) (y := _) rfl dX10_init_345 (fun H locs h_92 eh_92 hW hs => ?_)
  have hs0 := hs0.tr hs
  have gw := gw.S hs
  refine lv_dup hx hb dX10_init_346 rfl ?_
  refine lv_bipush (v := 49) hx hb dX10_init_347 (by decide) ?_
  refine lv_bipush (v := 111) hx hb dX10_init_349 (by decide) ?_
  refine hk_bast hx hb hW gw td_57 rfl (by decide) (y := _) rfl dX10_init_351 (fun H locs h_93 eh_93 hW hs => ?_)
  have hs0 := hs0.tr hs
  have gw := gw.S hs
  refine lv_dup hx hb dX10_init_352 rfl ?_
  refine lv_bipush (v := 50) hx hb dX10_init_353 (by decide) ?_
  refine lv_bipush (v := 119) hx hb dX10_init_355 (by decide) ?_
  refine hk_bast hx hb hW gw td_57 rfl (by decide) (y := _) rfl dX10_init_357 (fun H locs h_94 eh_94 hW hs => ?_)
  have hs0 := hs0.tr hs
  have gw := gw.S hs
  refine lv_dup hx hb dX10_init_358 rfl ?_
  refine lv_bipush (v := 51) hx hb dX10_init_359 (by decide) ?_
  refine lv_bipush (v := 110) hx hb dX10_init_361 (by decide) ?_
  refine hk_bast hx hb hW gw td_57 rfl (by decide) (y := _) rfl dX10_init_363 (fun H locs h_95 eh_95 hW hs => ?_)
  have hs0 := hs0.tr hs
  have gw := gw.S hs
  refine lv_dup hx hb dX10_init_364 rfl ?_
  refine lv_bipush (v := 52) hx hb dX10_init_365 (by decide) ?_
  refine lv_iconst (v := 0) hx hb dX10_init_367 (by decide) ?_
  refine hk_bast hx hb hW gw td_57 rfl (by decide) (y := _) rfl dX10_init_368 (fun H locs h_96 eh_96 hW hs => ?_)
  have hs0 := hs0.tr hs
  have gw := gw.S hs
  refine lv_dup hx hb dX10_init_369 rfl ?_
  refine lv_bipush (v := 53) hx hb dX10_init_370 (by decide) ?_
  refine lv_iconst (v := 0) hx hb dX10_init_372 (by decide) ?_
  refine hk_bast hx hb hW gw td_57 rfl (by decide) (y := _) rfl dX10_init_373 (fun H locs h_97 eh_97 hW hs => ?_)
  have hs0 := hs0.tr hs
  have gw := gw.S hs
  refine lv_dup hx hb dX10_init_374 rfl ?_
  refine lv_bipush (v := 54) hx hb dX10_init_375 (by decide) ?_
  refine lv_iconst (v := 0) hx hb dX10_init_377 (by decide) ?_
  refine hk_bast hx hb hW gw td_57 rfl (by decide) (y := _) rfl dX10_init_378 (fun H locs h_98 eh_98 hW hs => ?_)
  have hs0 := hs0.tr hs
  have gw := gw.S hs
  refine lv_dup hx hb dX10_init_379 rfl ?_
  refine lv_bipush (v := 55) hx hb dX10_init_380 (by decide) ?_
  refine lv_iconst (v := 0) hx hb dX10_init_382 (by decide) ?_
  refine hk_bast hx hb hW gw td_57 rfl (by decide) (y := _) rfl dX10_init_383 (fun H locs h_99 eh_99 hW hs => ?_)
  have hs0 := hs0.tr hs
  have gw := gw.S hs
  refine lv_dup hx hb dX10_init_384 rfl ?_
  refine lv_bipush (v := 56) hx hb dX10_init_385 (by decide) ?_
  refine lv_bipush (v := 111) hx hb dX10_init_387 (by decide) ?_
  refine hk_bast hx hb hW gw td_57 rfl (by decide) (y := _) rfl dX10_init_389 (fun H locs h_100 eh_100 hW hs => ?_)
  have hs0 := hs0.tr hs
  have gw := gw.S hs
  refine lv_dup hx hb dX10_init_390 rfl ?_
  refine lv_bipush (v := 57) hx hb dX10_init_391 (by decide) ?_
  refine lv_bipush (v := 116) hx hb dX10_init_393 (by decide) ?_
  refine hk_bast hx hb hW gw td_57 rfl (by decide) (y := _) rfl dX10_init_395 (fun H locs h_101 eh_101 hW hs => ?_)
  have hs0 := hs0.tr hs
  have gw := gw.S hs
  refine lv_dup hx hb dX10_init_396 rfl ?_
  refine lv_bipush (v := 58) hx hb dX10_init_397 (by decide) ?_
  refine lv_bipush (v := 104) hx hb dX10_init_399 (by decide) ?_
  refine hk_bast hx hb hW gw td_57 rfl (by decide) (y := _) rfl dX10_init_401 (fun H locs h_102 eh_102 hW hs => ?_)
  have hs0 := hs0.tr hs
  have gw := gw.S hs
  refine lv_dup hx hb dX10_init_402 rfl ?_
  refine lv_bipush (v := 59) hx hb dX10_init_403 (by decide) ?_
  refine lv_bipush (v := 101) hx hb dX10_init_405 (by decide) ?_
  refine hk_bast hx hb hW gw td_57 rfl (by decide) (y := _) rfl dX10_init_407 (fun H locs h_103 eh_103 hW hs => ?_)
  have hs0 := hs0.tr hs
  have gw := gw.S hs
  refine lv_dup hx hb dX10_init_408 rfl ?_
  refine lv_bipush (v := 60) hx hb dX10_init_409 (by decide) ?_
  refine lv_bipush (v := 114) hx hb dX10_init_411 (by decide) ?_
  refine hk_bast hx hb hW gw td_57 rfl (by decide) (y := _) rfl dX10_init_413 (fun H locs h_104 eh_104 hW hs => ?_)
  have hs0 := hs0.tr hs
  have gw := gw.S hs
  refine lv_dup hx hb dX10_init_414 rfl ?_
  refine lv_bipush (v := 61) hx hb dX10_init_415 (by decide) ?_
  refine lv_iconst (v := 0) hx hb dX10_init_417 (by decide) ?_
  refine hk_bast hx hb hW gw td_57 rfl (by decide) (y := _) rfl dX10_init_418 (fun H locs h_105 eh_105 hW hs => ?_)
  have hs0 := hs0.tr hs
  have gw := gw.S hs
  refine lv_dup hx hb dX10_init_419 rfl ?_
  refine lv_bipush (v := 62) hx hb dX10_init_420 (by decide) ?_
  refine lv_iconst (v := 0) hx hb dX10_init_422 (by decide) ?_
  refine hk_bast hx hb hW gw td_57 rfl (by decide) (y := _) rfl dX10_init_423 (fun H locs h_106 eh_106 hW hs => ?_)
  have hs0 := hs0.tr hs
  have gw := gw.S hs
  refine lv_dup hx hb dX10_init_424 rfl ?_
  refine lv_bipush (v := 63) hx hb dX10_init_425 (by decide) ?_
  refine lv_bipush (v := 97) hx hb dX10_init_427 (by decide) ?_
  refine hk_bast hx hb hW gw td_57 rfl (by decide) (y := _) rfl dX10_init_429 (fun H locs h_107 eh_107 hW hs => ?_)
  have hs0 := hs0.tr hs
  have gw := gw.S hs
  refine lv_dup hx hb dX10_init_430 rfl ?_
  refine lv_bipush (v := 64) hx hb dX10_init_431 (by decide) ?_
  refine lv_bipush (v := 108) hx hb dX10_init_433 (by decide) ?_
  refine hk_bast hx hb hW gw td_57 rfl (by decide) (y := _) rfl dX10_init_435 (fun H locs h_108 eh_108 hW hs => ?_)
  have hs0 := hs0.tr hs
  have gw := gw.S hs
  refine lv_dup hx hb dX10_init_436 rfl ?_
  refine lv_bipush (v := 65) hx hb dX10_init_437 (by decide) ?_
  refine lv_bipush (v := 105) hx hb dX10_init_439 (by decide) ?_
  refine hk_bast hx hb hW gw td_57 rfl (by decide) (y := _) rfl dX10_init_441 (fun H locs h_109 eh_109 hW hs => ?_)
  have hs0 := hs0.tr hs
  have gw := gw.S hs
  refine lv_dup hx hb dX10_init_442 rfl ?_
  refine lv_bipush (v := 66) hx hb dX10_init_443 (by decide) ?_
  refine lv_bipush (v := 107) hx hb dX10_init_445 (by decide) ?_
  refine hk_bast hx hb hW gw td_57 rfl (by decide) (y := _) rfl dX10_init_447 (fun H locs h_110 eh_110 hW hs => ?_)
  have hs0 := hs0.tr hs
  have gw := gw.S hs
  refine lv_dup hx hb dX10_init_448 rfl ?_
  refine lv_bipush (v := 67) hx hb dX10_init_449 (by decide) ?_
  refine lv_bipush (v := 101) hx hb dX10_init_451 (by decide) ?_
  refine hk_bast hx hb hW gw td_57 rfl (by decide) (y := _) rfl dX10_init_453 (fun H locs h_111 eh_111 hW hs => ?_)
  have hs0 := hs0.tr hs
  have gw := gw.S hs
  refine lv_dup hx hb dX10_init_454 rfl ?_
  refine lv_bipush (v := 68) hx hb dX10_init_455 (by decide) ?_
  refine lv_iconst (v := 0) hx hb dX10_init_457 (by decide) ?_
  refine hk_bast hx hb hW gw td_57 rfl (by decide) (y := _) rfl dX10_init_458 (fun H locs h_112 eh_112 hW hs => ?_)
  have hs0 := hs0.tr hs
  have gw := gw.S hs
  refine lv_dup hx hb dX10_init_459 rfl ?_
  refine lv_bipush (v := 69) hx hb dX10_init_460 (by decide) ?_
  refine lv_iconst (v := 0) hx hb dX10_init_462 (by decide) ?_
  refine hk_bast hx hb hW gw td_57 rfl (by decide) (y := _) rfl dX10_init_463 (fun H locs h_113 eh_113 hW hs => ?_)
  have hs0 := hs0.tr hs
  have gw := gw.S hs
  refine lv_dup hx hb dX10_init_464 rfl ?_
  refine lv_bipush (v := 70) hx hb dX10_init_465 (by decide) ?_
  refine lv_bipush (v := 99) hx hb dX10_init_467 (by decide) ?_
  refine hk_bast hx hb hW gw td_57 rfl (by decide) (y := _) rfl dX10_init_469 (fun H locs h_114 eh_114 hW hs => ?_)
  have hs0 := hs0.tr hs
  have gw := gw.S hs
  have hs := hs0
  have f_5 := (hs.o gy trivial rfl).2.trans f_5
  have f_10 := (hs.o gy trivial rfl).2.trans f_10
  have f_15 := (hs.o gy trivial rfl).2.trans f_15
  have f_20 := (hs.o gy trivial rfl).2.trans f_20
  have f_25 := (hs.o gy trivial rfl).2.trans f_25
  have f_30 := (hs.o gy trivial rfl).2.trans f_30
  have f_35 := (hs.o gy trivial rfl).2.trans f_35
  have hM := hM.tr (hs.mono (by decide))
  have gy := gy.S hs
  have gq_2 := gq_2.S hs
  have gq_7 := gq_7.S hs
  have gq_12 := gq_12.S hs
  have gq_17 := gq_17.S hs
  have gq_22 := gq_22.S hs
  have gq_27 := gq_27.S hs
  have gq_32 := gq_32.S hs
  have gq_42 := gq_42.S hs
  refine W.widen (k := 9) (n := 2131) (Nat.le_of_ble_eq_true rfl) (Nat.le_of_ble_eq_true rfl) ?_
  exact sg_X10_init_3 l dC dI dA L h sz y q_2 q_7 q_12 q_17 q_22 q_27 q_32 q_42 hx hb hml hr hlk hts hown hin hsz L1 h_114 _ _ ls hW hM f_5 f_10 f_15 f_20 f_25 f_30 f_35  gy gq_2 gq_7 gq_12 gq_17 gq_22 gq_27 gq_32 gq_42 hl

set_option maxHeartbeats 4000000 in
set_option maxRecDepth 100000 in
theorem sg_X10_init_1 (l : Launch) (dC : Nat → ClassId) (dI : Nat → Nat → Nat) (dA : Nat → ClassId) (L : List Nat) (h : hx_h) (sz : Nat) (y : Nat) (q_2 q_7 q_12 q_17 q_22 q_27 q_32 q_42 : Nat) {p : Program} {e : Env} {s : State} {m : MethodId} {below : List Frame} {meth : Method} {c : Code} (hx : p.tables.exec = Jvm.exec) (hb : c.code = cX10_init) (hml : c.maxLocals = 2) (hr : meth.sig.returnType = none) (hlk : meth.locks = false) (hts : ∀ w ∈ hx_all, w.before ([.ref y] : List Value).toArray s = true) (hown : s.vm.findClass "SmallCourtModel" = some m.cls) (hin : meth.name = "<init>") (hsz : s.heap.size = sz) (L1 : List Nat) (hl1 : hx_h) (H : Heap) (locs : List Loc) (ls : Array Slot) (hW : hx_W P_tb (P_ty dA) (dC, dI) vwCl (hx_A L sz) s.heap L1 hl1 s H locs) (hM : hx_S P_tb [(10, 2), (10, 3), (10, 4), (10, 5), (10, 6), (10, 12), (10, 14), (10, 15), (10, 16), (10, 17), (10, 18), (10, 19), (10, 21), (10, 22), (10, 23), (10, 24), (10, 25), (10, 26), (10, 27), (10, 28), (10, 30), (10, 31), (10, 32), (10, 33), (10, 34), (10, 35), (10, 37), (10, 38), (10, 39), (10, 40), (10, 41), (10, 42), (10, 43), (10, 44), (10, 45), (10, 46), (10, 47), (10, 48), (10, 49), (10, 50), (10, 51), (10, 52), (10, 53), (10, 54), (10, 55), (10, 56), (10, 58), (10, 60), (10, 61), (10, 62), (10, 63), (10, 64), (10, 65), (10, 66), (10, 73), (10, 74), (10, 76), (10, 77), (10, 78), (10, 79), (10, 80), (10, 81), (10, 82), (10, 85), (10, 88), (10, 89), (10, 91), (10, 93), (10, 94), (10, 97), (50, 0), (51, 0), (52, 0), (55, 0), (57, 0)] L h L1 hl1) (f_5 : hl1.2.2 y 2 = some q_2) (f_10 : hl1.2.2 y 3 = some q_7) (f_15 : hl1.2.2 y 4 = some q_12) (f_20 : hl1.2.2 y 5 = some q_17) (f_25 : hl1.2.2 y 6 = some q_22) (f_30 : hl1.2.2 y 12 = some q_27) (f_35 : hl1.2.2 y 15 = some q_32)  (gy : hx_g L1 hl1 y 10) (gq_2 : hx_g L1 hl1 q_2 49) (gq_7 : hx_g L1 hl1 q_7 50) (gq_12 : hx_g L1 hl1 q_12 51) (gq_17 : hx_g L1 hl1 q_17 52) (gq_22 : hx_g L1 hl1 q_22 53) (gq_27 : hx_g L1 hl1 q_27 54) (gq_32 : hx_g L1 hl1 q_32 55) (gq_42 : hx_g L1 hl1 q_42 57) (hl : lv_has ls 2 [(0, .ref y)]) : W p l e ({ frames := 2, cells := 67, slots := 15340, locals := 42 }) s m ([.ref y] : List Value).toArray below meth c H locs 9 2131 (MQ below (va_Qv (fun (u : List Nat × hx_h) => hx_S P_tb [(10, 2), (10, 3), (10, 4), (10, 5), (10, 6), (10, 12), (10, 14), (10, 15), (10, 16), (10, 17), (10, 18), (10, 19), (10, 21), (10, 22), (10, 23), (10, 24), (10, 25), (10, 26), (10, 27), (10, 28), (10, 30), (10, 31), (10, 32), (10, 33), (10, 34), (10, 35), (10, 37), (10, 38), (10, 39), (10, 40), (10, 41), (10, 42), (10, 43), (10, 44), (10, 45), (10, 46), (10, 47), (10, 48), (10, 49), (10, 50), (10, 51), (10, 52), (10, 53), (10, 54), (10, 55), (10, 56), (10, 58), (10, 60), (10, 61), (10, 62), (10, 63), (10, 64), (10, 65), (10, 66), (10, 73), (10, 74), (10, 76), (10, 77), (10, 78), (10, 79), (10, 80), (10, 81), (10, 82), (10, 85), (10, 88), (10, 89), (10, 91), (10, 93), (10, 94), (10, 97), (50, 0), (51, 0), (52, 0), (55, 0), (57, 0)] L h u.1 u.2 ∧ (∃ q, u.2.2.2 y 2 = some q ∧ hx_g u.1 u.2 q 49) ∧ (∃ q, u.2.2.2 y 3 = some q ∧ hx_g u.1 u.2 q 50 ∧ (∀ j, j < 13 → u.2.2.1 q j = P_w1 j)) ∧ (∃ q, u.2.2.2 y 4 = some q ∧ hx_g u.1 u.2 q 51) ∧ (∃ q, u.2.2.2 y 5 = some q ∧ hx_g u.1 u.2 q 52) ∧ (∃ q, u.2.2.2 y 6 = some q ∧ hx_g u.1 u.2 q 53) ∧ (∃ q, u.2.2.2 y 12 = some q ∧ hx_g u.1 u.2 q 54) ∧ (∃ q, u.2.2.2 y 15 = some q ∧ hx_g u.1 u.2 q 55) ∧ (∃ q, u.2.2.2 y 21 = some q ∧ hx_g u.1 u.2 q 58) ∧ (∃ q, u.2.2.2 y 22 = some q ∧ hx_g u.1 u.2 q 59) ∧ (∃ q, u.2.2.2 y 23 = some q ∧ hx_g u.1 u.2 q 60) ∧ (∃ q, u.2.2.2 y 24 = some q ∧ hx_g u.1 u.2 q 61) ∧ (∃ q, u.2.2.2 y 25 = some q ∧ hx_g u.1 u.2 q 62) ∧ (∃ q, u.2.2.2 y 26 = some q ∧ hx_g u.1 u.2 q 63) ∧ (∃ q, u.2.2.2 y 82 = some q ∧ hx_g u.1 u.2 q 108) ∧ (∃ q, u.2.2.2 y 94 = some q ∧ hx_g u.1 u.2 q 114)) (hx_E P_tb (P_ty dA) (dC, dI) vwCl (hx_A L sz)) (hx_A L sz)) ([.ref y] : List Value).toArray s 67 15340 (hx_A L sz)) (F0 m 165 ls [.ref q_42, .ref y]) := by
  refine lv_dup hx hb dX10_init_165 rfl ?_
  refine lv_bipush (v := 17) hx hb dX10_init_166 (by decide) ?_
  refine lv_iconst (v := 0) hx hb dX10_init_168 (by decide) ?_
  refine hk_bast hx hb hW gq_42 td_57 rfl (by decide) (y := _) rfl dX10_init_169 (fun H locs h_61 eh_61 hW hs => ?_)
  have hs0 := hs
  have gw := gq_42.S hs
  refine lv_dup hx hb dX10_init_170 rfl ?_
  refine lv_bipush (v := 18) hx hb dX10_init_171 (by decide) ?_
  refine lv_iconst (v := 0) hx hb dX10_init_173 (by decide) ?_
  refine hk_bast hx hb hW gw td_57 rfl (by decide) (y := _) rfl dX10_init_174 (fun H locs h_62 eh_62 hW hs => ?_)
  have hs0 := hs0.tr hs
  have gw := gw.S hs
  refine lv_dup hx hb dX10_init_175 rfl ?_
  refine lv_bipush (v := 19) hx hb dX10_init_176 (by decide) ?_
  refine lv_iconst (v := 0) hx hb dX10_init_178 (by decide) ?_
  refine hk_bast hx hb hW gw td_57 rfl (by decide) (y := _) rfl dX10_init_179 (fun H locs h_63 eh_63 hW hs => ?_)
  have hs0 := hs0.tr hs
  have gw := gw.S hs
  refine lv_dup hx hb dX10_init_180 rfl ?_
  refine lv_bipush (v := 20) hx hb dX10_init_181 (by decide) ?_
  refine lv_iconst (v := 0) hx hb dX10_init_183 (by decide) ?_
  refine hk_bast hx hb hW gw td_57 rfl (by decide) (y := _) rfl dX10_init_184 (fun H locs h_64 eh_64 hW hs => ?_)
  have hs0 := hs0.tr hs
  have gw := gw.S hs
  refine lv_dup hx hb dX10_init_185 rfl ?_
  refine lv_bipush (v := 21) hx hb dX10_init_186 (by decide) ?_
  refine lv_bipush (v := 111) hx hb dX10_init_188 (by decide) ?_
  refine hk_bast hx hb hW gw td_57 rfl (by decide) (y := _) rfl dX10_init_190 (fun H locs h_65 eh_65 hW hs => ?_)
  have hs0 := hs0.tr hs
  have gw := gw.S hs
  refine lv_dup hx hb dX10_init_191 rfl ?_
  refine lv_bipush (v := 22) hx hb dX10_init_192 (by decide) ?_
  refine lv_bipush (v := 97) hx hb dX10_init_194 (by decide) ?_
  refine hk_bast hx hb hW gw td_57 rfl (by decide) (y := _) rfl dX10_init_196 (fun H locs h_66 eh_66 hW hs => ?_)
  have hs0 := hs0.tr hs
  have gw := gw.S hs
  refine lv_dup hx hb dX10_init_197 rfl ?_
  refine lv_bipush (v := 23) hx hb dX10_init_198 (by decide) ?_
  refine lv_bipush (v := 116) hx hb dX10_init_200 (by decide) ?_
  refine hk_bast hx hb hW gw td_57 rfl (by decide) (y := _) rfl dX10_init_202 (fun H locs h_67 eh_67 hW hs => ?_)
  have hs0 := hs0.tr hs
  have gw := gw.S hs
  refine lv_dup hx hb dX10_init_203 rfl ?_
  refine lv_bipush (v := 24) hx hb dX10_init_204 (by decide) ?_
  refine lv_bipush (v := 104) hx hb dX10_init_206 (by decide) ?_
  refine hk_bast hx hb hW gw td_57 rfl (by decide) (y := _) rfl dX10_init_208 (fun H locs h_68 eh_68 hW hs => ?_)
  have hs0 := hs0.tr hs
  have gw := gw.S hs
  refine lv_dup hx hb dX10_init_209 rfl ?_
  refine lv_bipush (v := 25) hx hb dX10_init_210 (by decide) ?_
  refine lv_iconst (v := 0) hx hb dX10_init_212 (by decide) ?_
  refine hk_bast hx hb hW gw td_57 rfl (by decide) (y := _) rfl dX10_init_213 (fun H locs h_69 eh_69 hW hs => ?_)
  have hs0 := hs0.tr hs
  have gw := gw.S hs
  refine lv_dup hx hb dX10_init_214 rfl ?_
  refine lv_bipush (v := 26) hx hb dX10_init_215 (by decide) ?_
  refine lv_iconst (v := 0) hx hb dX10_init_217 (by decide) ?_
  refine hk_bast hx hb hW gw td_57 rfl (by decide) (y := _) rfl dX10_init_218 (fun H locs h_70 eh_70 hW hs => ?_)
  have hs0 := hs0.tr hs
  have gw := gw.S hs
  refine lv_dup hx hb dX10_init_219 rfl ?_
  refine lv_bipush (v := 27) hx hb dX10_init_220 (by decide) ?_
  refine lv_iconst (v := 0) hx hb dX10_init_222 (by decide) ?_
  refine hk_bast hx hb hW gw td_57 rfl (by decide) (y := _) rfl dX10_init_223 (fun H locs h_71 eh_71 hW hs => ?_)
  have hs0 := hs0.tr hs
  have gw := gw.S hs
  refine lv_dup hx hb dX10_init_224 rfl ?_
  refine lv_bipush (v := 28) hx hb dX10_init_225 (by decide) ?_
  refine lv_bipush (v := 100) hx hb dX10_init_227 (by decide) ?_
  refine hk_bast hx hb hW gw td_57 rfl (by decide) (y := _) rfl dX10_init_229 (fun H locs h_72 eh_72 hW hs => ?_)
  have hs0 := hs0.tr hs
  have gw := gw.S hs
  refine lv_dup hx hb dX10_init_230 rfl ?_
  refine lv_bipush (v := 29) hx hb dX10_init_231 (by decide) ?_
  refine lv_bipush (v := 101) hx hb dX10_init_233 (by decide) ?_
  refine hk_bast hx hb hW gw td_57 rfl (by decide) (y := _) rfl dX10_init_235 (fun H locs h_73 eh_73 hW hs => ?_)
  have hs0 := hs0.tr hs
  have gw := gw.S hs
  refine lv_dup hx hb dX10_init_236 rfl ?_
  refine lv_bipush (v := 30) hx hb dX10_init_237 (by decide) ?_
  refine lv_bipush (v := 110) hx hb dX10_init_239 (by decide) ?_
  refine hk_bast hx hb hW gw td_57 rfl (by decide) (y := _) rfl dX10_init_241 (fun H locs h_74 eh_74 hW hs => ?_)
  have hs0 := hs0.tr hs
  have gw := gw.S hs
  refine lv_dup hx hb dX10_init_242 rfl ?_
  refine lv_bipush (v := 31) hx hb dX10_init_243 (by decide) ?_
  refine lv_bipush (v := 105) hx hb dX10_init_245 (by decide) ?_
  refine hk_bast hx hb hW gw td_57 rfl (by decide) (y := _) rfl dX10_init_247 (fun H locs h_75 eh_75 hW hs => ?_)
  have hs0 := hs0.tr hs
  have gw := gw.S hs
  refine lv_dup hx hb dX10_init_248 rfl ?_
  refine lv_bipush (v := 32) hx hb dX10_init_249 (by decide) ?_
  refine lv_bipush (v := 101) hx hb dX10_init_251 (by decide) ?_
  refine hk_bast hx hb hW gw td_57 rfl (by decide) (y := _) rfl dX10_init_253 (fun H locs h_76 eh_76 hW hs => ?_)
  have hs0 := hs0.tr hs
  have gw := gw.S hs
  refine lv_dup hx hb dX10_init_254 rfl ?_
  refine lv_bipush (v := 33) hx hb dX10_init_255 (by decide) ?_
  refine lv_bipush (v := 100) hx hb dX10_init_257 (by decide) ?_
  refine hk_bast hx hb hW gw td_57 rfl (by decide) (y := _) rfl dX10_init_259 (fun H locs h_77 eh_77 hW hs => ?_)
  have hs0 := hs0.tr hs
  have gw := gw.S hs
  refine lv_dup hx hb dX10_init_260 rfl ?_
  refine lv_bipush (v := 34) hx hb dX10_init_261 (by decide) ?_
  refine lv_iconst (v := 0) hx hb dX10_init_263 (by decide) ?_
  refine hk_bast hx hb hW gw td_57 rfl (by decide) (y := _) rfl dX10_init_264 (fun H locs h_78 eh_78 hW hs => ?_)
  have hs0 := hs0.tr hs
  have gw := gw.S hs
  refine lv_dup hx hb dX10_init_265 rfl ?_
  refine lv_bipush (v := 35) hx hb dX10_init_266 (by decide) ?_
  refine lv_bipush (v := 110) hx hb dX10_init_268 (by decide) ?_
  refine hk_bast hx hb hW gw td_57 rfl (by decide) (y := _) rfl dX10_init_270 (fun H locs h_79 eh_79 hW hs => ?_)
  have hs0 := hs0.tr hs
  have gw := gw.S hs
  refine lv_dup hx hb dX10_init_271 rfl ?_
  refine lv_bipush (v := 36) hx hb dX10_init_272 (by decide) ?_
  refine lv_bipush (v := 111) hx hb dX10_init_274 (by decide) ?_
  refine hk_bast hx hb hW gw td_57 rfl (by decide) (y := _) rfl dX10_init_276 (fun H locs h_80 eh_80 hW hs => ?_)
  have hs0 := hs0.tr hs
  have gw := gw.S hs
  refine lv_dup hx hb dX10_init_277 rfl ?_
  refine lv_bipush (v := 37) hx hb dX10_init_278 (by decide) ?_
  refine lv_bipush (v := 116) hx hb dX10_init_280 (by decide) ?_
  refine hk_bast hx hb hW gw td_57 rfl (by decide) (y := _) rfl dX10_init_282 (fun H locs h_81 eh_81 hW hs => ?_)
  have hs0 := hs0.tr hs
  have gw := gw.S hs
  refine lv_dup hx hb dX10_init_283 rfl ?_
  refine lv_bipush (v := 38) hx hb dX10_init_284 (by decide) ?_
  refine lv_bipush (v := 101) hx hb dX10_init_286 (by decide) ?_
  refine hk_bast hx hb hW gw td_57 rfl (by decide) (y := _) rfl dX10_init_288 (fun H locs h_82 eh_82 hW hs => ?_)
  have hs0 := hs0.tr hs
  have gw := gw.S hs
  refine lv_dup hx hb dX10_init_289 rfl ?_
  refine lv_bipush (v := 39) hx hb dX10_init_290 (by decide) ?_
  refine lv_iconst (v := 0) hx hb dX10_init_292 (by decide) ?_
  refine hk_bast hx hb hW gw td_57 rfl (by decide) (y := _) rfl dX10_init_293 (fun H locs h_83 eh_83 hW hs => ?_)
  have hs0 := hs0.tr hs
  have gw := gw.S hs
  refine lv_dup hx hb dX10_init_294 rfl ?_
  refine lv_bipush (v := 40) hx hb dX10_init_295 (by decide) ?_
  refine lv_iconst (v := 0) hx hb dX10_init_297 (by decide) ?_
  refine hk_bast hx hb hW gw td_57 rfl (by decide) (y := _) rfl dX10_init_298 (fun H locs h_84 eh_84 hW hs => ?_)
  have hs0 := hs0.tr hs
  have gw := gw.S hs
  refine lv_dup hx hb dX10_init_299 rfl ?_
  refine lv_bipush (v := 41) hx hb dX10_init_300 (by decide) ?_
  refine lv_iconst (v := 0) hx hb dX10_init_302 (by decide) ?_
  refine hk_bast hx hb hW gw td_57 rfl (by decide) (y := _) rfl dX10_init_303 (fun H locs h_85 eh_85 hW hs => ?_)
  have hs0 := hs0.tr hs
  have gw := gw.S hs
  refine lv_dup hx hb dX10_init_304 rfl ?_
  refine lv_bipush (v := 42) hx hb dX10_init_305 (by decide) ?_
  refine lv_bipush (v := 119) hx hb dX10_init_307 (by decide) ?_
  refine hk_bast hx hb hW gw td_57 rfl (by decide) (y := _) rfl dX10_init_309 (fun H locs h_86 eh_86 hW hs => ?_)
  have hs0 := hs0.tr hs
  have gw := gw.S hs
  refine lv_dup hx hb dX10_init_310 rfl ?_
  refine lv_bipush (v := 43) hx hb dX10_init_311 (by decide) ?_
  refine lv_bipush (v := 105) hx hb dX10_init_313 (by decide) ?_
  refine hk_bast hx hb hW gw td_57 rfl (by decide) (y := _) rfl dX10_init_315 (fun H locs h_87 eh_87 hW hs => ?_)
  have hs0 := hs0.tr hs
  have gw := gw.S hs
  have hs := hs0
  have f_5 := (hs.o gy trivial rfl).2.trans f_5
  have f_10 := (hs.o gy trivial rfl).2.trans f_10
  have f_15 := (hs.o gy trivial rfl).2.trans f_15
  have f_20 := (hs.o gy trivial rfl).2.trans f_20
  have f_25 := (hs.o gy trivial rfl).2.trans f_25
  have f_30 := (hs.o gy trivial rfl).2.trans f_30
  have f_35 := (hs.o gy trivial rfl).2.trans f_35
  have hM := hM.tr (hs.mono (by decide))
  have gy := gy.S hs
  have gq_2 := gq_2.S hs
  have gq_7 := gq_7.S hs
  have gq_12 := gq_12.S hs
  have gq_17 := gq_17.S hs
  have gq_22 := gq_22.S hs
  have gq_27 := gq_27.S hs
  have gq_32 := gq_32.S hs
  have gq_42 := gq_42.S hs
  refine W.widen (k := 9) (n := 2131) (Nat.le_of_ble_eq_true rfl) (Nat.le_of_ble_eq_true rfl) ?_
  exact sg_X10_init_2 l dC dI dA L h sz y q_2 q_7 q_12 q_17 q_22 q_27 q_32 q_42 hx hb hml hr hlk hts hown hin hsz L1 h_87 _ _ ls hW hM f_5 f_10 f_15 f_20 f_25 f_30 f_35  gy gq_2 gq_7 gq_12 gq_17 gq_22 gq_27 gq_32 gq_42 hl

set_option maxHeartbeats 4000000 in
set_option maxRecDepth 100000 in
theorem sg_X10_init_0 (l : Launch) (dC : Nat → ClassId) (dI : Nat → Nat → Nat) (dA : Nat → ClassId) (L : List Nat) (h : hx_h) (sz : Nat) (y : Nat) (q_2 q_7 q_12 q_17 q_22 q_27 q_32 : Nat) {p : Program} {e : Env} {s : State} {m : MethodId} {below : List Frame} {meth : Method} {c : Code} (hx : p.tables.exec = Jvm.exec) (hb : c.code = cX10_init) (hml : c.maxLocals = 2) (hr : meth.sig.returnType = none) (hlk : meth.locks = false) (hts : ∀ w ∈ hx_all, w.before ([.ref y] : List Value).toArray s = true) (hown : s.vm.findClass "SmallCourtModel" = some m.cls) (hin : meth.name = "<init>") (hsz : s.heap.size = sz) (L1 : List Nat) (hl1 : hx_h) (H : Heap) (locs : List Loc) (ls : Array Slot) (hW : hx_W P_tb (P_ty dA) (dC, dI) vwCl (hx_A L sz) s.heap L1 hl1 s H locs) (hM : hx_S P_tb [(10, 2), (10, 3), (10, 4), (10, 5), (10, 6), (10, 12), (10, 14), (10, 15), (10, 16), (10, 17), (10, 18), (10, 19), (10, 21), (10, 22), (10, 23), (10, 24), (10, 25), (10, 26), (10, 27), (10, 28), (10, 30), (10, 31), (10, 32), (10, 33), (10, 34), (10, 35), (10, 37), (10, 38), (10, 39), (10, 40), (10, 41), (10, 42), (10, 43), (10, 44), (10, 45), (10, 46), (10, 47), (10, 48), (10, 49), (10, 50), (10, 51), (10, 52), (10, 53), (10, 54), (10, 55), (10, 56), (10, 58), (10, 60), (10, 61), (10, 62), (10, 63), (10, 64), (10, 65), (10, 66), (10, 73), (10, 74), (10, 76), (10, 77), (10, 78), (10, 79), (10, 80), (10, 81), (10, 82), (10, 85), (10, 88), (10, 89), (10, 91), (10, 93), (10, 94), (10, 97), (50, 0), (51, 0), (52, 0), (55, 0), (57, 0)] L h L1 hl1) (f_5 : hl1.2.2 y 2 = some q_2) (f_10 : hl1.2.2 y 3 = some q_7) (f_15 : hl1.2.2 y 4 = some q_12) (f_20 : hl1.2.2 y 5 = some q_17) (f_25 : hl1.2.2 y 6 = some q_22) (f_30 : hl1.2.2 y 12 = some q_27) (f_35 : hl1.2.2 y 15 = some q_32)  (gy : hx_g L1 hl1 y 10) (gq_2 : hx_g L1 hl1 q_2 49) (gq_7 : hx_g L1 hl1 q_7 50) (gq_12 : hx_g L1 hl1 q_12 51) (gq_17 : hx_g L1 hl1 q_17 52) (gq_22 : hx_g L1 hl1 q_22 53) (gq_27 : hx_g L1 hl1 q_27 54) (gq_32 : hx_g L1 hl1 q_32 55) (hl : lv_has ls 2 [(0, .ref y)]) : W p l e ({ frames := 2, cells := 67, slots := 15340, locals := 42 }) s m ([.ref y] : List Value).toArray below meth c H locs 7 1828 (MQ below (va_Qv (fun (u : List Nat × hx_h) => hx_S P_tb [(10, 2), (10, 3), (10, 4), (10, 5), (10, 6), (10, 12), (10, 14), (10, 15), (10, 16), (10, 17), (10, 18), (10, 19), (10, 21), (10, 22), (10, 23), (10, 24), (10, 25), (10, 26), (10, 27), (10, 28), (10, 30), (10, 31), (10, 32), (10, 33), (10, 34), (10, 35), (10, 37), (10, 38), (10, 39), (10, 40), (10, 41), (10, 42), (10, 43), (10, 44), (10, 45), (10, 46), (10, 47), (10, 48), (10, 49), (10, 50), (10, 51), (10, 52), (10, 53), (10, 54), (10, 55), (10, 56), (10, 58), (10, 60), (10, 61), (10, 62), (10, 63), (10, 64), (10, 65), (10, 66), (10, 73), (10, 74), (10, 76), (10, 77), (10, 78), (10, 79), (10, 80), (10, 81), (10, 82), (10, 85), (10, 88), (10, 89), (10, 91), (10, 93), (10, 94), (10, 97), (50, 0), (51, 0), (52, 0), (55, 0), (57, 0)] L h u.1 u.2 ∧ (∃ q, u.2.2.2 y 2 = some q ∧ hx_g u.1 u.2 q 49) ∧ (∃ q, u.2.2.2 y 3 = some q ∧ hx_g u.1 u.2 q 50 ∧ (∀ j, j < 13 → u.2.2.1 q j = P_w1 j)) ∧ (∃ q, u.2.2.2 y 4 = some q ∧ hx_g u.1 u.2 q 51) ∧ (∃ q, u.2.2.2 y 5 = some q ∧ hx_g u.1 u.2 q 52) ∧ (∃ q, u.2.2.2 y 6 = some q ∧ hx_g u.1 u.2 q 53) ∧ (∃ q, u.2.2.2 y 12 = some q ∧ hx_g u.1 u.2 q 54) ∧ (∃ q, u.2.2.2 y 15 = some q ∧ hx_g u.1 u.2 q 55) ∧ (∃ q, u.2.2.2 y 21 = some q ∧ hx_g u.1 u.2 q 58) ∧ (∃ q, u.2.2.2 y 22 = some q ∧ hx_g u.1 u.2 q 59) ∧ (∃ q, u.2.2.2 y 23 = some q ∧ hx_g u.1 u.2 q 60) ∧ (∃ q, u.2.2.2 y 24 = some q ∧ hx_g u.1 u.2 q 61) ∧ (∃ q, u.2.2.2 y 25 = some q ∧ hx_g u.1 u.2 q 62) ∧ (∃ q, u.2.2.2 y 26 = some q ∧ hx_g u.1 u.2 q 63) ∧ (∃ q, u.2.2.2 y 82 = some q ∧ hx_g u.1 u.2 q 108) ∧ (∃ q, u.2.2.2 y 94 = some q ∧ hx_g u.1 u.2 q 114)) (hx_E P_tb (P_ty dA) (dC, dI) vwCl (hx_A L sz)) (hx_A L sz)) ([.ref y] : List Value).toArray s 67 15340 (hx_A L sz)) (F0 m 63 ls []) := by
  refine lv_aload_n hx hb dX10_init_63 rfl (lv_at hl 0 rfl) ?_
  refine lv_sipush (v := 128) hx hb dX10_init_64 (by decide) ?_
  refine hk_newa hx hb hts hW 56 td_56 (atype := .int) rfl kw_186 (tys := P_ty dA) (t0 := 0) rfl (fun _ => Iff.rfl) rfl (i := (128 : Int32)) (by decide) (Nat.le_of_ble_eq_true rfl) (Nat.le_of_ble_eq_true rfl) (Nat.le_of_ble_eq_true rfl) dX10_init_67 (fun q_37 H h_36 eh_36 hqq_37 hW hs gq_37 => ?_)
  have f_5 := (hs.o gy trivial rfl).2.trans f_5
  have f_10 := (hs.o gy trivial rfl).2.trans f_10
  have f_15 := (hs.o gy trivial rfl).2.trans f_15
  have f_20 := (hs.o gy trivial rfl).2.trans f_20
  have f_25 := (hs.o gy trivial rfl).2.trans f_25
  have f_30 := (hs.o gy trivial rfl).2.trans f_30
  have f_35 := (hs.o gy trivial rfl).2.trans f_35
  have hM := hM.tr (hs.mono (by decide))
  have gy := gy.S hs
  have gq_2 := gq_2.S hs
  have gq_7 := gq_7.S hs
  have gq_12 := gq_12.S hs
  have gq_17 := gq_17.S hs
  have gq_22 := gq_22.S hs
  have gq_27 := gq_27.S hs
  have gq_32 := gq_32.S hs
  have f_38 : (∀ j, h_36.2.1 q_37 j = 0) ∧ ∀ j, h_36.2.2 q_37 j = none := by rw [eh_36]; exact ⟨fun _ => hx_nw_i, fun _ => hx_nw_r⟩
  refine hk_putrF hx hb hts hC_10 hown hW gy td_10 17 (by decide) rfl kw_1160 ⟨rfl, rfl, rfl⟩ rfl hin rfl (x := (some q_37)) rfl rfl rfl dX10_init_69 (fun H locs h_39 eh_39 hW hs => ?_)
  have f_5 := (hs.o gy trivial rfl).2.trans f_5
  have f_10 := (hs.o gy trivial rfl).2.trans f_10
  have f_15 := (hs.o gy trivial rfl).2.trans f_15
  have f_20 := (hs.o gy trivial rfl).2.trans f_20
  have f_25 := (hs.o gy trivial rfl).2.trans f_25
  have f_30 := (hs.o gy trivial rfl).2.trans f_30
  have f_35 := (hs.o gy trivial rfl).2.trans f_35
  have f_38 : _ ∧ _ := ⟨fun j => (hs.a gq_37 rfl j).1.trans (f_38.1 j), fun j => (hs.a gq_37 rfl j).2.trans (f_38.2 j)⟩
  have hM := hM.tr (hs.mono (by decide))
  have gy := gy.S hs
  have gq_2 := gq_2.S hs
  have gq_7 := gq_7.S hs
  have gq_12 := gq_12.S hs
  have gq_17 := gq_17.S hs
  have gq_22 := gq_22.S hs
  have gq_27 := gq_27.S hs
  have gq_32 := gq_32.S hs
  have gq_37 := gq_37.S hs
  have f_40 : h_39.2.2 y 17 = (some q_37) := by rw [eh_39]; exact hx_pr_at _ _ _ _
  refine lv_aload_n hx hb dX10_init_72 rfl (lv_at hl 0 rfl) ?_
  refine lv_sipush (v := 175) hx hb dX10_init_73 (by decide) ?_
  refine hk_newa hx hb hts hW 57 td_57 (atype := .byte) rfl kw_147 (tys := P_ty dA) (t0 := 1) rfl (fun _ => Iff.rfl) rfl (i := (175 : Int32)) (by decide) (Nat.le_of_ble_eq_true rfl) (Nat.le_of_ble_eq_true rfl) (Nat.le_of_ble_eq_true rfl) dX10_init_76 (fun q_42 H h_41 eh_41 hqq_42 hW hs gq_42 => ?_)
  have f_5 := (hs.o gy trivial rfl).2.trans f_5
  have f_10 := (hs.o gy trivial rfl).2.trans f_10
  have f_15 := (hs.o gy trivial rfl).2.trans f_15
  have f_20 := (hs.o gy trivial rfl).2.trans f_20
  have f_25 := (hs.o gy trivial rfl).2.trans f_25
  have f_30 := (hs.o gy trivial rfl).2.trans f_30
  have f_35 := (hs.o gy trivial rfl).2.trans f_35
  have hM := hM.tr (hs.mono (by decide))
  have gy := gy.S hs
  have gq_2 := gq_2.S hs
  have gq_7 := gq_7.S hs
  have gq_12 := gq_12.S hs
  have gq_17 := gq_17.S hs
  have gq_22 := gq_22.S hs
  have gq_27 := gq_27.S hs
  have gq_32 := gq_32.S hs
  have f_43 : (∀ j, h_41.2.1 q_42 j = 0) ∧ ∀ j, h_41.2.2 q_42 j = none := by rw [eh_41]; exact ⟨fun _ => hx_nw_i, fun _ => hx_nw_r⟩
  refine lv_dup hx hb dX10_init_78 rfl ?_
  refine lv_iconst (v := 0) hx hb dX10_init_79 (by decide) ?_
  refine lv_bipush (v := 111) hx hb dX10_init_80 (by decide) ?_
  refine hk_bast hx hb hW gq_42 td_57 rfl (by decide) (y := _) rfl dX10_init_82 (fun H locs h_44 eh_44 hW hs => ?_)
  have hs0 := hs
  have gw := gq_42.S hs
  refine lv_dup hx hb dX10_init_83 rfl ?_
  refine lv_iconst (v := 1) hx hb dX10_init_84 (by decide) ?_
  refine lv_bipush (v := 114) hx hb dX10_init_85 (by decide) ?_
  refine hk_bast hx hb hW gw td_57 rfl (by decide) (y := _) rfl dX10_init_87 (fun H locs h_45 eh_45 hW hs => ?_)
  have hs0 := hs0.tr hs
  have gw := gw.S hs
  refine lv_dup hx hb dX10_init_88 rfl ?_
  refine lv_iconst (v := 2) hx hb dX10_init_89 (by decide) ?_
  refine lv_iconst (v := 0) hx hb dX10_init_90 (by decide) ?_
  refine hk_bast hx hb hW gw td_57 rfl (by decide) (y := _) rfl dX10_init_91 (fun H locs h_46 eh_46 hW hs => ?_)
  have hs0 := hs0.tr hs
  have gw := gw.S hs
  refine lv_dup hx hb dX10_init_92 rfl ?_
  refine lv_iconst (v := 3) hx hb dX10_init_93 (by decide) ?_
  refine lv_iconst (v := 0) hx hb dX10_init_94 (by decide) ?_
  refine hk_bast hx hb hW gw td_57 rfl (by decide) (y := _) rfl dX10_init_95 (fun H locs h_47 eh_47 hW hs => ?_)
  have hs0 := hs0.tr hs
  have gw := gw.S hs
  refine lv_dup hx hb dX10_init_96 rfl ?_
  refine lv_iconst (v := 4) hx hb dX10_init_97 (by decide) ?_
  refine lv_iconst (v := 0) hx hb dX10_init_98 (by decide) ?_
  refine hk_bast hx hb hW gw td_57 rfl (by decide) (y := _) rfl dX10_init_99 (fun H locs h_48 eh_48 hW hs => ?_)
  have hs0 := hs0.tr hs
  have gw := gw.S hs
  refine lv_dup hx hb dX10_init_100 rfl ?_
  refine lv_iconst (v := 5) hx hb dX10_init_101 (by decide) ?_
  refine lv_iconst (v := 0) hx hb dX10_init_102 (by decide) ?_
  refine hk_bast hx hb hW gw td_57 rfl (by decide) (y := _) rfl dX10_init_103 (fun H locs h_49 eh_49 hW hs => ?_)
  have hs0 := hs0.tr hs
  have gw := gw.S hs
  refine lv_dup hx hb dX10_init_104 rfl ?_
  refine lv_bipush (v := 6) hx hb dX10_init_105 (by decide) ?_
  refine lv_iconst (v := 0) hx hb dX10_init_107 (by decide) ?_
  refine hk_bast hx hb hW gw td_57 rfl (by decide) (y := _) rfl dX10_init_108 (fun H locs h_50 eh_50 hW hs => ?_)
  have hs0 := hs0.tr hs
  have gw := gw.S hs
  refine lv_dup hx hb dX10_init_109 rfl ?_
  refine lv_bipush (v := 7) hx hb dX10_init_110 (by decide) ?_
  refine lv_bipush (v := 97) hx hb dX10_init_112 (by decide) ?_
  refine hk_bast hx hb hW gw td_57 rfl (by decide) (y := _) rfl dX10_init_114 (fun H locs h_51 eh_51 hW hs => ?_)
  have hs0 := hs0.tr hs
  have gw := gw.S hs
  refine lv_dup hx hb dX10_init_115 rfl ?_
  refine lv_bipush (v := 8) hx hb dX10_init_116 (by decide) ?_
  refine lv_bipush (v := 110) hx hb dX10_init_118 (by decide) ?_
  refine hk_bast hx hb hW gw td_57 rfl (by decide) (y := _) rfl dX10_init_120 (fun H locs h_52 eh_52 hW hs => ?_)
  have hs0 := hs0.tr hs
  have gw := gw.S hs
  refine lv_dup hx hb dX10_init_121 rfl ?_
  refine lv_bipush (v := 9) hx hb dX10_init_122 (by decide) ?_
  refine lv_bipush (v := 100) hx hb dX10_init_124 (by decide) ?_
  refine hk_bast hx hb hW gw td_57 rfl (by decide) (y := _) rfl dX10_init_126 (fun H locs h_53 eh_53 hW hs => ?_)
  have hs0 := hs0.tr hs
  have gw := gw.S hs
  refine lv_dup hx hb dX10_init_127 rfl ?_
  refine lv_bipush (v := 10) hx hb dX10_init_128 (by decide) ?_
  refine lv_iconst (v := 0) hx hb dX10_init_130 (by decide) ?_
  refine hk_bast hx hb hW gw td_57 rfl (by decide) (y := _) rfl dX10_init_131 (fun H locs h_54 eh_54 hW hs => ?_)
  have hs0 := hs0.tr hs
  have gw := gw.S hs
  refine lv_dup hx hb dX10_init_132 rfl ?_
  refine lv_bipush (v := 11) hx hb dX10_init_133 (by decide) ?_
  refine lv_iconst (v := 0) hx hb dX10_init_135 (by decide) ?_
  refine hk_bast hx hb hW gw td_57 rfl (by decide) (y := _) rfl dX10_init_136 (fun H locs h_55 eh_55 hW hs => ?_)
  have hs0 := hs0.tr hs
  have gw := gw.S hs
  refine lv_dup hx hb dX10_init_137 rfl ?_
  refine lv_bipush (v := 12) hx hb dX10_init_138 (by decide) ?_
  refine lv_iconst (v := 0) hx hb dX10_init_140 (by decide) ?_
  refine hk_bast hx hb hW gw td_57 rfl (by decide) (y := _) rfl dX10_init_141 (fun H locs h_56 eh_56 hW hs => ?_)
  have hs0 := hs0.tr hs
  have gw := gw.S hs
  refine lv_dup hx hb dX10_init_142 rfl ?_
  refine lv_bipush (v := 13) hx hb dX10_init_143 (by decide) ?_
  refine lv_iconst (v := 0) hx hb dX10_init_145 (by decide) ?_
  refine hk_bast hx hb hW gw td_57 rfl (by decide) (y := _) rfl dX10_init_146 (fun H locs h_57 eh_57 hW hs => ?_)
  have hs0 := hs0.tr hs
  have gw := gw.S hs
  refine lv_dup hx hb dX10_init_147 rfl ?_
  refine lv_bipush (v := 14) hx hb dX10_init_148 (by decide) ?_
  refine lv_bipush (v := 110) hx hb dX10_init_150 (by decide) ?_
  refine hk_bast hx hb hW gw td_57 rfl (by decide) (y := _) rfl dX10_init_152 (fun H locs h_58 eh_58 hW hs => ?_)
  have hs0 := hs0.tr hs
  have gw := gw.S hs
  refine lv_dup hx hb dX10_init_153 rfl ?_
  refine lv_bipush (v := 15) hx hb dX10_init_154 (by decide) ?_
  refine lv_bipush (v := 111) hx hb dX10_init_156 (by decide) ?_
  refine hk_bast hx hb hW gw td_57 rfl (by decide) (y := _) rfl dX10_init_158 (fun H locs h_59 eh_59 hW hs => ?_)
  have hs0 := hs0.tr hs
  have gw := gw.S hs
  refine lv_dup hx hb dX10_init_159 rfl ?_
  refine lv_bipush (v := 16) hx hb dX10_init_160 (by decide) ?_
  refine lv_bipush (v := 116) hx hb dX10_init_162 (by decide) ?_
  refine hk_bast hx hb hW gw td_57 rfl (by decide) (y := _) rfl dX10_init_164 (fun H locs h_60 eh_60 hW hs => ?_)
  have hs0 := hs0.tr hs
  have gw := gw.S hs
  have hs := hs0
  have f_5 := (hs.o gy trivial rfl).2.trans f_5
  have f_10 := (hs.o gy trivial rfl).2.trans f_10
  have f_15 := (hs.o gy trivial rfl).2.trans f_15
  have f_20 := (hs.o gy trivial rfl).2.trans f_20
  have f_25 := (hs.o gy trivial rfl).2.trans f_25
  have f_30 := (hs.o gy trivial rfl).2.trans f_30
  have f_35 := (hs.o gy trivial rfl).2.trans f_35
  have hM := hM.tr (hs.mono (by decide))
  have gy := gy.S hs
  have gq_2 := gq_2.S hs
  have gq_7 := gq_7.S hs
  have gq_12 := gq_12.S hs
  have gq_17 := gq_17.S hs
  have gq_22 := gq_22.S hs
  have gq_27 := gq_27.S hs
  have gq_32 := gq_32.S hs
  have gq_42 := gq_42.S hs
  refine W.widen (k := 9) (n := 2131) (Nat.le_of_ble_eq_true rfl) (Nat.le_of_ble_eq_true rfl) ?_
  exact sg_X10_init_1 l dC dI dA L h sz y q_2 q_7 q_12 q_17 q_22 q_27 q_32 q_42 hx hb hml hr hlk hts hown hin hsz ((L1 ++ [q_37]) ++ [q_42]) h_60 _ _ ls hW hM f_5 f_10 f_15 f_20 f_25 f_30 f_35  gy gq_2 gq_7 gq_12 gq_17 gq_22 gq_27 gq_32 gq_42 hl

set_option maxHeartbeats 4000000 in
set_option maxRecDepth 100000 in
theorem c_X10_init (l : Launch) (dC : Nat → ClassId) (dI : Nat → Nat → Nat) (dA : Nat → ClassId) (L : List Nat) (h : hx_h) (sz : Nat) (y : Nat) (gy : hx_g L h y 10)  : Met l yX10_init (Cond.code yX10_init cX10_init 2 none :: hx_all) ({ frames := 2, cells := 67, slots := 15340, locals := 42 }) (va_Pc [.ref y] (hx_B P_tb (P_ty dA) (dC, dI) vwCl L h sz)) (va_Qv (fun (u : List Nat × hx_h) => hx_S P_tb [(10, 2), (10, 3), (10, 4), (10, 5), (10, 6), (10, 12), (10, 14), (10, 15), (10, 16), (10, 17), (10, 18), (10, 19), (10, 21), (10, 22), (10, 23), (10, 24), (10, 25), (10, 26), (10, 27), (10, 28), (10, 30), (10, 31), (10, 32), (10, 33), (10, 34), (10, 35), (10, 37), (10, 38), (10, 39), (10, 40), (10, 41), (10, 42), (10, 43), (10, 44), (10, 45), (10, 46), (10, 47), (10, 48), (10, 49), (10, 50), (10, 51), (10, 52), (10, 53), (10, 54), (10, 55), (10, 56), (10, 58), (10, 60), (10, 61), (10, 62), (10, 63), (10, 64), (10, 65), (10, 66), (10, 73), (10, 74), (10, 76), (10, 77), (10, 78), (10, 79), (10, 80), (10, 81), (10, 82), (10, 85), (10, 88), (10, 89), (10, 91), (10, 93), (10, 94), (10, 97), (50, 0), (51, 0), (52, 0), (55, 0), (57, 0)] L h u.1 u.2 ∧ (∃ q, u.2.2.2 y 2 = some q ∧ hx_g u.1 u.2 q 49) ∧ (∃ q, u.2.2.2 y 3 = some q ∧ hx_g u.1 u.2 q 50 ∧ (∀ j, j < 13 → u.2.2.1 q j = P_w1 j)) ∧ (∃ q, u.2.2.2 y 4 = some q ∧ hx_g u.1 u.2 q 51) ∧ (∃ q, u.2.2.2 y 5 = some q ∧ hx_g u.1 u.2 q 52) ∧ (∃ q, u.2.2.2 y 6 = some q ∧ hx_g u.1 u.2 q 53) ∧ (∃ q, u.2.2.2 y 12 = some q ∧ hx_g u.1 u.2 q 54) ∧ (∃ q, u.2.2.2 y 15 = some q ∧ hx_g u.1 u.2 q 55) ∧ (∃ q, u.2.2.2 y 21 = some q ∧ hx_g u.1 u.2 q 58) ∧ (∃ q, u.2.2.2 y 22 = some q ∧ hx_g u.1 u.2 q 59) ∧ (∃ q, u.2.2.2 y 23 = some q ∧ hx_g u.1 u.2 q 60) ∧ (∃ q, u.2.2.2 y 24 = some q ∧ hx_g u.1 u.2 q 61) ∧ (∃ q, u.2.2.2 y 25 = some q ∧ hx_g u.1 u.2 q 62) ∧ (∃ q, u.2.2.2 y 26 = some q ∧ hx_g u.1 u.2 q 63) ∧ (∃ q, u.2.2.2 y 82 = some q ∧ hx_g u.1 u.2 q 108) ∧ (∃ q, u.2.2.2 y 94 = some q ∧ hx_g u.1 u.2 q 114)) (hx_E P_tb (P_ty dA) (dC, dI) vwCl (hx_A L sz)) (hx_A L sz)) 67 15340 (hx_A L sz) := by
  refine hx_met (lv := [(0, .ref y)]) (by decide +kernel) rfl (Nat.le_of_ble_eq_true rfl) rfl ?_
  intro p e s m below meth c hx hb hml hr hlk hts0 hown hin hsz hW ls hl
  have hts : ∀ w ∈ hx_all, w.before _ s = true := fun w hw => hts0 w (List.mem_cons_of_mem _ hw)
  have hown : s.vm.findClass "SmallCourtModel" = some m.cls := hown
  have hin : meth.name = "<init>" := hin
  have hM : hx_S P_tb [(10, 2), (10, 3), (10, 4), (10, 5), (10, 6), (10, 12), (10, 14), (10, 15), (10, 16), (10, 17), (10, 18), (10, 19), (10, 21), (10, 22), (10, 23), (10, 24), (10, 25), (10, 26), (10, 27), (10, 28), (10, 30), (10, 31), (10, 32), (10, 33), (10, 34), (10, 35), (10, 37), (10, 38), (10, 39), (10, 40), (10, 41), (10, 42), (10, 43), (10, 44), (10, 45), (10, 46), (10, 47), (10, 48), (10, 49), (10, 50), (10, 51), (10, 52), (10, 53), (10, 54), (10, 55), (10, 56), (10, 58), (10, 60), (10, 61), (10, 62), (10, 63), (10, 64), (10, 65), (10, 66), (10, 73), (10, 74), (10, 76), (10, 77), (10, 78), (10, 79), (10, 80), (10, 81), (10, 82), (10, 85), (10, 88), (10, 89), (10, 91), (10, 93), (10, 94), (10, 97), (50, 0), (51, 0), (52, 0), (55, 0), (57, 0)] L h L h := hx_S.rf
  refine lv_aload_n hx hb dX10_init_0 rfl (lv_at hl 0 rfl) ?_
  refine W.objInit hx hb hown (hts _ kw_1118) (hts _ kw_117) (hts _ kw_118) rfl (by rw [hml]; exact hl.1) rfl dX10_init_1 (Nat.le_of_ble_eq_true rfl) (Nat.le_of_ble_eq_true rfl) ?_
  refine W.eq (g2 := F0 m 4 ls []) rfl ?_
  refine lv_aload_n hx hb dX10_init_4 rfl (lv_at hl 0 rfl) ?_
  refine lv_bipush (v := 9) hx hb dX10_init_5 (by decide) ?_
  refine hk_newa hx hb hts hW 49 td_49 (atype := .int) rfl kw_186 (tys := P_ty dA) (t0 := 0) rfl (fun _ => Iff.rfl) rfl (i := (9 : Int32)) (by decide) (Nat.le_of_ble_eq_true rfl) (Nat.le_of_ble_eq_true rfl) (Nat.le_of_ble_eq_true rfl) dX10_init_7 (fun q_2 H h_1 eh_1 hqq_2 hW hs gq_2 => ?_)
  have hM := hM.tr (hs.mono (by decide))
  have gy := gy.S hs
  have f_3 : (∀ j, h_1.2.1 q_2 j = 0) ∧ ∀ j, h_1.2.2 q_2 j = none := by rw [eh_1]; exact ⟨fun _ => hx_nw_i, fun _ => hx_nw_r⟩
  refine hk_putrF hx hb hts hC_10 hown hW gy td_10 2 (by decide) rfl kw_1145 ⟨rfl, rfl, rfl⟩ rfl hin rfl (x := (some q_2)) rfl rfl rfl dX10_init_9 (fun H locs h_4 eh_4 hW hs => ?_)
  have f_3 : _ ∧ _ := ⟨fun j => (hs.a gq_2 rfl j).1.trans (f_3.1 j), fun j => (hs.a gq_2 rfl j).2.trans (f_3.2 j)⟩
  have hM := hM.tr (hs.mono (by decide))
  have gy := gy.S hs
  have gq_2 := gq_2.S hs
  have f_5 : h_4.2.2 y 2 = (some q_2) := by rw [eh_4]; exact hx_pr_at _ _ _ _
  refine lv_aload_n hx hb dX10_init_12 rfl (lv_at hl 0 rfl) ?_
  refine lv_bipush (v := 117) hx hb dX10_init_13 (by decide) ?_
  refine hk_newa hx hb hts hW 50 td_50 (atype := .int) rfl kw_186 (tys := P_ty dA) (t0 := 0) rfl (fun _ => Iff.rfl) rfl (i := (117 : Int32)) (by decide) (Nat.le_of_ble_eq_true rfl) (Nat.le_of_ble_eq_true rfl) (Nat.le_of_ble_eq_true rfl) dX10_init_15 (fun q_7 H h_6 eh_6 hqq_7 hW hs gq_7 => ?_)
  have f_5 := (hs.o gy trivial rfl).2.trans f_5
  have hM := hM.tr (hs.mono (by decide))
  have gy := gy.S hs
  have gq_2 := gq_2.S hs
  have f_8 : (∀ j, h_6.2.1 q_7 j = 0) ∧ ∀ j, h_6.2.2 q_7 j = none := by rw [eh_6]; exact ⟨fun _ => hx_nw_i, fun _ => hx_nw_r⟩
  refine hk_putrF hx hb hts hC_10 hown hW gy td_10 3 (by decide) rfl kw_1146 ⟨rfl, rfl, rfl⟩ rfl hin rfl (x := (some q_7)) rfl rfl rfl dX10_init_17 (fun H locs h_9 eh_9 hW hs => ?_)
  have f_5 := (hs.o gy trivial rfl).2.trans f_5
  have f_8 : _ ∧ _ := ⟨fun j => (hs.a gq_7 rfl j).1.trans (f_8.1 j), fun j => (hs.a gq_7 rfl j).2.trans (f_8.2 j)⟩
  have hM := hM.tr (hs.mono (by decide))
  have gy := gy.S hs
  have gq_2 := gq_2.S hs
  have gq_7 := gq_7.S hs
  have f_10 : h_9.2.2 y 3 = (some q_7) := by rw [eh_9]; exact hx_pr_at _ _ _ _
  refine lv_aload_n hx hb dX10_init_20 rfl (lv_at hl 0 rfl) ?_
  refine lv_bipush (v := 9) hx hb dX10_init_21 (by decide) ?_
  refine hk_newa hx hb hts hW 51 td_51 (atype := .int) rfl kw_186 (tys := P_ty dA) (t0 := 0) rfl (fun _ => Iff.rfl) rfl (i := (9 : Int32)) (by decide) (Nat.le_of_ble_eq_true rfl) (Nat.le_of_ble_eq_true rfl) (Nat.le_of_ble_eq_true rfl) dX10_init_23 (fun q_12 H h_11 eh_11 hqq_12 hW hs gq_12 => ?_)
  have f_5 := (hs.o gy trivial rfl).2.trans f_5
  have f_10 := (hs.o gy trivial rfl).2.trans f_10
  have hM := hM.tr (hs.mono (by decide))
  have gy := gy.S hs
  have gq_2 := gq_2.S hs
  have gq_7 := gq_7.S hs
  have f_13 : (∀ j, h_11.2.1 q_12 j = 0) ∧ ∀ j, h_11.2.2 q_12 j = none := by rw [eh_11]; exact ⟨fun _ => hx_nw_i, fun _ => hx_nw_r⟩
  refine hk_putrF hx hb hts hC_10 hown hW gy td_10 4 (by decide) rfl kw_1147 ⟨rfl, rfl, rfl⟩ rfl hin rfl (x := (some q_12)) rfl rfl rfl dX10_init_25 (fun H locs h_14 eh_14 hW hs => ?_)
  have f_5 := (hs.o gy trivial rfl).2.trans f_5
  have f_10 := (hs.o gy trivial rfl).2.trans f_10
  have f_13 : _ ∧ _ := ⟨fun j => (hs.a gq_12 rfl j).1.trans (f_13.1 j), fun j => (hs.a gq_12 rfl j).2.trans (f_13.2 j)⟩
  have hM := hM.tr (hs.mono (by decide))
  have gy := gy.S hs
  have gq_2 := gq_2.S hs
  have gq_7 := gq_7.S hs
  have gq_12 := gq_12.S hs
  have f_15 : h_14.2.2 y 4 = (some q_12) := by rw [eh_14]; exact hx_pr_at _ _ _ _
  refine lv_aload_n hx hb dX10_init_28 rfl (lv_at hl 0 rfl) ?_
  refine lv_sipush (v := 1152) hx hb dX10_init_29 (by decide) ?_
  refine hk_newa hx hb hts hW 52 td_52 (atype := .int) rfl kw_186 (tys := P_ty dA) (t0 := 0) rfl (fun _ => Iff.rfl) rfl (i := (1152 : Int32)) (by decide) (Nat.le_of_ble_eq_true rfl) (Nat.le_of_ble_eq_true rfl) (Nat.le_of_ble_eq_true rfl) dX10_init_32 (fun q_17 H h_16 eh_16 hqq_17 hW hs gq_17 => ?_)
  have f_5 := (hs.o gy trivial rfl).2.trans f_5
  have f_10 := (hs.o gy trivial rfl).2.trans f_10
  have f_15 := (hs.o gy trivial rfl).2.trans f_15
  have hM := hM.tr (hs.mono (by decide))
  have gy := gy.S hs
  have gq_2 := gq_2.S hs
  have gq_7 := gq_7.S hs
  have gq_12 := gq_12.S hs
  have f_18 : (∀ j, h_16.2.1 q_17 j = 0) ∧ ∀ j, h_16.2.2 q_17 j = none := by rw [eh_16]; exact ⟨fun _ => hx_nw_i, fun _ => hx_nw_r⟩
  refine hk_putrF hx hb hts hC_10 hown hW gy td_10 5 (by decide) rfl kw_1148 ⟨rfl, rfl, rfl⟩ rfl hin rfl (x := (some q_17)) rfl rfl rfl dX10_init_34 (fun H locs h_19 eh_19 hW hs => ?_)
  have f_5 := (hs.o gy trivial rfl).2.trans f_5
  have f_10 := (hs.o gy trivial rfl).2.trans f_10
  have f_15 := (hs.o gy trivial rfl).2.trans f_15
  have f_18 : _ ∧ _ := ⟨fun j => (hs.a gq_17 rfl j).1.trans (f_18.1 j), fun j => (hs.a gq_17 rfl j).2.trans (f_18.2 j)⟩
  have hM := hM.tr (hs.mono (by decide))
  have gy := gy.S hs
  have gq_2 := gq_2.S hs
  have gq_7 := gq_7.S hs
  have gq_12 := gq_12.S hs
  have gq_17 := gq_17.S hs
  have f_20 : h_19.2.2 y 5 = (some q_17) := by rw [eh_19]; exact hx_pr_at _ _ _ _
  refine lv_aload_n hx hb dX10_init_37 rfl (lv_at hl 0 rfl) ?_
  refine lv_sipush (v := 400) hx hb dX10_init_38 (by decide) ?_
  refine hk_newa hx hb hts hW 53 td_53 (atype := .byte) rfl kw_147 (tys := P_ty dA) (t0 := 1) rfl (fun _ => Iff.rfl) rfl (i := (400 : Int32)) (by decide) (Nat.le_of_ble_eq_true rfl) (Nat.le_of_ble_eq_true rfl) (Nat.le_of_ble_eq_true rfl) dX10_init_41 (fun q_22 H h_21 eh_21 hqq_22 hW hs gq_22 => ?_)
  have f_5 := (hs.o gy trivial rfl).2.trans f_5
  have f_10 := (hs.o gy trivial rfl).2.trans f_10
  have f_15 := (hs.o gy trivial rfl).2.trans f_15
  have f_20 := (hs.o gy trivial rfl).2.trans f_20
  have hM := hM.tr (hs.mono (by decide))
  have gy := gy.S hs
  have gq_2 := gq_2.S hs
  have gq_7 := gq_7.S hs
  have gq_12 := gq_12.S hs
  have gq_17 := gq_17.S hs
  have f_23 : (∀ j, h_21.2.1 q_22 j = 0) ∧ ∀ j, h_21.2.2 q_22 j = none := by rw [eh_21]; exact ⟨fun _ => hx_nw_i, fun _ => hx_nw_r⟩
  refine hk_putrF hx hb hts hC_10 hown hW gy td_10 6 (by decide) rfl kw_1149 ⟨rfl, rfl, rfl⟩ rfl hin rfl (x := (some q_22)) rfl rfl rfl dX10_init_43 (fun H locs h_24 eh_24 hW hs => ?_)
  have f_5 := (hs.o gy trivial rfl).2.trans f_5
  have f_10 := (hs.o gy trivial rfl).2.trans f_10
  have f_15 := (hs.o gy trivial rfl).2.trans f_15
  have f_20 := (hs.o gy trivial rfl).2.trans f_20
  have f_23 : _ ∧ _ := ⟨fun j => (hs.a gq_22 rfl j).1.trans (f_23.1 j), fun j => (hs.a gq_22 rfl j).2.trans (f_23.2 j)⟩
  have hM := hM.tr (hs.mono (by decide))
  have gy := gy.S hs
  have gq_2 := gq_2.S hs
  have gq_7 := gq_7.S hs
  have gq_12 := gq_12.S hs
  have gq_17 := gq_17.S hs
  have gq_22 := gq_22.S hs
  have f_25 : h_24.2.2 y 6 = (some q_22) := by rw [eh_24]; exact hx_pr_at _ _ _ _
  refine lv_aload_n hx hb dX10_init_46 rfl (lv_at hl 0 rfl) ?_
  refine lv_bipush (v := 13) hx hb dX10_init_47 (by decide) ?_
  refine hk_newa hx hb hts hW 54 td_54 (atype := .int) rfl kw_186 (tys := P_ty dA) (t0 := 0) rfl (fun _ => Iff.rfl) rfl (i := (13 : Int32)) (by decide) (Nat.le_of_ble_eq_true rfl) (Nat.le_of_ble_eq_true rfl) (Nat.le_of_ble_eq_true rfl) dX10_init_49 (fun q_27 H h_26 eh_26 hqq_27 hW hs gq_27 => ?_)
  have f_5 := (hs.o gy trivial rfl).2.trans f_5
  have f_10 := (hs.o gy trivial rfl).2.trans f_10
  have f_15 := (hs.o gy trivial rfl).2.trans f_15
  have f_20 := (hs.o gy trivial rfl).2.trans f_20
  have f_25 := (hs.o gy trivial rfl).2.trans f_25
  have hM := hM.tr (hs.mono (by decide))
  have gy := gy.S hs
  have gq_2 := gq_2.S hs
  have gq_7 := gq_7.S hs
  have gq_12 := gq_12.S hs
  have gq_17 := gq_17.S hs
  have gq_22 := gq_22.S hs
  have f_28 : (∀ j, h_26.2.1 q_27 j = 0) ∧ ∀ j, h_26.2.2 q_27 j = none := by rw [eh_26]; exact ⟨fun _ => hx_nw_i, fun _ => hx_nw_r⟩
  refine hk_putrF hx hb hts hC_10 hown hW gy td_10 12 (by decide) rfl kw_1155 ⟨rfl, rfl, rfl⟩ rfl hin rfl (x := (some q_27)) rfl rfl rfl dX10_init_51 (fun H locs h_29 eh_29 hW hs => ?_)
  have f_5 := (hs.o gy trivial rfl).2.trans f_5
  have f_10 := (hs.o gy trivial rfl).2.trans f_10
  have f_15 := (hs.o gy trivial rfl).2.trans f_15
  have f_20 := (hs.o gy trivial rfl).2.trans f_20
  have f_25 := (hs.o gy trivial rfl).2.trans f_25
  have f_28 : _ ∧ _ := ⟨fun j => (hs.a gq_27 rfl j).1.trans (f_28.1 j), fun j => (hs.a gq_27 rfl j).2.trans (f_28.2 j)⟩
  have hM := hM.tr (hs.mono (by decide))
  have gy := gy.S hs
  have gq_2 := gq_2.S hs
  have gq_7 := gq_7.S hs
  have gq_12 := gq_12.S hs
  have gq_17 := gq_17.S hs
  have gq_22 := gq_22.S hs
  have gq_27 := gq_27.S hs
  have f_30 : h_29.2.2 y 12 = (some q_27) := by rw [eh_29]; exact hx_pr_at _ _ _ _
  refine lv_aload_n hx hb dX10_init_54 rfl (lv_at hl 0 rfl) ?_
  refine lv_sipush (v := 128) hx hb dX10_init_55 (by decide) ?_
  refine hk_newa hx hb hts hW 55 td_55 (atype := .int) rfl kw_186 (tys := P_ty dA) (t0 := 0) rfl (fun _ => Iff.rfl) rfl (i := (128 : Int32)) (by decide) (Nat.le_of_ble_eq_true rfl) (Nat.le_of_ble_eq_true rfl) (Nat.le_of_ble_eq_true rfl) dX10_init_58 (fun q_32 H h_31 eh_31 hqq_32 hW hs gq_32 => ?_)
  have f_5 := (hs.o gy trivial rfl).2.trans f_5
  have f_10 := (hs.o gy trivial rfl).2.trans f_10
  have f_15 := (hs.o gy trivial rfl).2.trans f_15
  have f_20 := (hs.o gy trivial rfl).2.trans f_20
  have f_25 := (hs.o gy trivial rfl).2.trans f_25
  have f_30 := (hs.o gy trivial rfl).2.trans f_30
  have hM := hM.tr (hs.mono (by decide))
  have gy := gy.S hs
  have gq_2 := gq_2.S hs
  have gq_7 := gq_7.S hs
  have gq_12 := gq_12.S hs
  have gq_17 := gq_17.S hs
  have gq_22 := gq_22.S hs
  have gq_27 := gq_27.S hs
  have f_33 : (∀ j, h_31.2.1 q_32 j = 0) ∧ ∀ j, h_31.2.2 q_32 j = none := by rw [eh_31]; exact ⟨fun _ => hx_nw_i, fun _ => hx_nw_r⟩
  refine hk_putrF hx hb hts hC_10 hown hW gy td_10 15 (by decide) rfl kw_1158 ⟨rfl, rfl, rfl⟩ rfl hin rfl (x := (some q_32)) rfl rfl rfl dX10_init_60 (fun H locs h_34 eh_34 hW hs => ?_)
  have f_5 := (hs.o gy trivial rfl).2.trans f_5
  have f_10 := (hs.o gy trivial rfl).2.trans f_10
  have f_15 := (hs.o gy trivial rfl).2.trans f_15
  have f_20 := (hs.o gy trivial rfl).2.trans f_20
  have f_25 := (hs.o gy trivial rfl).2.trans f_25
  have f_30 := (hs.o gy trivial rfl).2.trans f_30
  have f_33 : _ ∧ _ := ⟨fun j => (hs.a gq_32 rfl j).1.trans (f_33.1 j), fun j => (hs.a gq_32 rfl j).2.trans (f_33.2 j)⟩
  have hM := hM.tr (hs.mono (by decide))
  have gy := gy.S hs
  have gq_2 := gq_2.S hs
  have gq_7 := gq_7.S hs
  have gq_12 := gq_12.S hs
  have gq_17 := gq_17.S hs
  have gq_22 := gq_22.S hs
  have gq_27 := gq_27.S hs
  have gq_32 := gq_32.S hs
  have f_35 : h_34.2.2 y 15 = (some q_32) := by rw [eh_34]; exact hx_pr_at _ _ _ _
  refine W.widen (k := 7) (n := 1828) (Nat.le_of_ble_eq_true rfl) (Nat.le_of_ble_eq_true rfl) ?_
  exact sg_X10_init_0 l dC dI dA L h sz y q_2 q_7 q_12 q_17 q_22 q_27 q_32 hx hb hml hr hlk hts hown hin hsz (((((((L ++ [q_2]) ++ [q_7]) ++ [q_12]) ++ [q_17]) ++ [q_22]) ++ [q_27]) ++ [q_32]) h_34 _ _ ls hW hM f_5 f_10 f_15 f_20 f_25 f_30 f_35  gy gq_2 gq_7 gq_12 gq_17 gq_22 gq_27 gq_32 hl

