def wNX10_compare : Nat := 7389236659516459509669610107446453748567880954776063663275831390977088969760612534716248697156718940990195758923930698670828183910691123617695095653624421551723073857537312323691260470038700765407349494421322130739198194079955527309126825028764753965388451661430866377361696284864903661073717660134220324340564381378699972535081282581428048990696735619030096040934771165564704749610039551347312752068826365679871673240325703077552646202253012026230984000713143878177878115116578853479940292560944401673154253696787696446652497044870924950159106460866397832540662888723922683217105882800100014300682817947118918190323799073726738741959583735176593838028827
theorem wX10_compare_c : hz_cd cX10_compare wNX10_compare 272 := ⟨by decide +kernel, by decide +kernel⟩
theorem dX10_compare_0 : decode cX10_compare 0 = .ok (.iload_n 1, 1) := dw_27 wX10_compare_c rfl
theorem dX10_compare_1 : decode cX10_compare 1 = .ok (.invokestatic 270, 3) := dw_184 wX10_compare_c 1 14 rfl rfl
theorem dX10_compare_4 : decode cX10_compare 4 = .ok (.ifCond .ne 13, 3) := dw_154 wX10_compare_c 0 13 rfl rfl rfl
theorem dX10_compare_7 : decode cX10_compare 7 = .ok (.aload_n 0, 1) := dw_42 wX10_compare_c rfl
theorem dX10_compare_8 : decode cX10_compare 8 = .ok (.iconst 0, 1) := dw_3 wX10_compare_c rfl
theorem dX10_compare_9 : decode cX10_compare 9 = .ok (.aload_n 0, 1) := dw_42 wX10_compare_c rfl
theorem dX10_compare_10 : decode cX10_compare 10 = .ok (.getfield 245, 3) := dw_180 wX10_compare_c 0 245 rfl rfl
theorem dX10_compare_13 : decode cX10_compare 13 = .ok (.invokevirtual 255, 3) := dw_182 wX10_compare_c 0 255 rfl rfl
theorem dX10_compare_16 : decode cX10_compare 16 = .ok (.ireturn, 1) := dw_172 wX10_compare_c rfl
theorem dX10_compare_17 : decode cX10_compare 17 = .ok (.aload_n 0, 1) := dw_42 wX10_compare_c rfl
theorem dX10_compare_18 : decode cX10_compare 18 = .ok (.getfield 274, 3) := dw_180 wX10_compare_c 1 18 rfl rfl
theorem dX10_compare_21 : decode cX10_compare 21 = .ok (.bipush 20, 2) := dw_16 wX10_compare_c 20 rfl rfl rfl
theorem dX10_compare_23 : decode cX10_compare 23 = .ok (.if_icmp .ne 13, 3) := dw_160 wX10_compare_c 0 13 rfl rfl rfl
theorem dX10_compare_26 : decode cX10_compare 26 = .ok (.aload_n 0, 1) := dw_42 wX10_compare_c rfl
theorem dX10_compare_27 : decode cX10_compare 27 = .ok (.iconst 4, 1) := dw_7 wX10_compare_c rfl
theorem dX10_compare_28 : decode cX10_compare 28 = .ok (.aload_n 0, 1) := dw_42 wX10_compare_c rfl
theorem dX10_compare_29 : decode cX10_compare 29 = .ok (.getfield 245, 3) := dw_180 wX10_compare_c 0 245 rfl rfl
theorem dX10_compare_32 : decode cX10_compare 32 = .ok (.invokevirtual 255, 3) := dw_182 wX10_compare_c 0 255 rfl rfl
theorem dX10_compare_35 : decode cX10_compare 35 = .ok (.ireturn, 1) := dw_172 wX10_compare_c rfl
theorem dX10_compare_36 : decode cX10_compare 36 = .ok (.aload_n 0, 1) := dw_42 wX10_compare_c rfl
theorem dX10_compare_37 : decode cX10_compare 37 = .ok (.dup, 1) := dw_89 wX10_compare_c rfl
theorem dX10_compare_38 : decode cX10_compare 38 = .ok (.getfield 274, 3) := dw_180 wX10_compare_c 1 18 rfl rfl
theorem dX10_compare_41 : decode cX10_compare 41 = .ok (.iconst 1, 1) := dw_4 wX10_compare_c rfl
theorem dX10_compare_42 : decode cX10_compare 42 = .ok (.iadd, 1) := dw_96 wX10_compare_c rfl
theorem dX10_compare_43 : decode cX10_compare 43 = .ok (.putfield 274, 3) := dw_181 wX10_compare_c 1 18 rfl rfl
theorem dX10_compare_46 : decode cX10_compare 46 = .ok (.aload_n 0, 1) := dw_42 wX10_compare_c rfl
theorem dX10_compare_47 : decode cX10_compare 47 = .ok (.dup, 1) := dw_89 wX10_compare_c rfl
theorem dX10_compare_48 : decode cX10_compare 48 = .ok (.getfield 245, 3) := dw_180 wX10_compare_c 0 245 rfl rfl
theorem dX10_compare_51 : decode cX10_compare 51 = .ok (.aload_n 0, 1) := dw_42 wX10_compare_c rfl
theorem dX10_compare_52 : decode cX10_compare 52 = .ok (.getfield 252, 3) := dw_180 wX10_compare_c 0 252 rfl rfl
theorem dX10_compare_55 : decode cX10_compare 55 = .ok (.iadd, 1) := dw_96 wX10_compare_c rfl
theorem dX10_compare_56 : decode cX10_compare 56 = .ok (.putfield 245, 3) := dw_181 wX10_compare_c 0 245 rfl rfl
theorem dX10_compare_59 : decode cX10_compare 59 = .ok (.aload_n 0, 1) := dw_42 wX10_compare_c rfl
theorem dX10_compare_60 : decode cX10_compare 60 = .ok (.invokevirtual 248, 3) := dw_182 wX10_compare_c 0 248 rfl rfl
theorem dX10_compare_63 : decode cX10_compare 63 = .ok (.istore_n 2, 1) := dw_61 wX10_compare_c rfl
theorem dX10_compare_64 : decode cX10_compare 64 = .ok (.iload_n 2, 1) := dw_28 wX10_compare_c rfl
theorem dX10_compare_65 : decode cX10_compare 65 = .ok (.bipush 60, 2) := dw_16 wX10_compare_c 60 rfl rfl rfl
theorem dX10_compare_67 : decode cX10_compare 67 = .ok (.if_icmp .eq 25, 3) := dw_159 wX10_compare_c 0 25 rfl rfl rfl
theorem dX10_compare_70 : decode cX10_compare 70 = .ok (.iload_n 2, 1) := dw_28 wX10_compare_c rfl
theorem dX10_compare_71 : decode cX10_compare 71 = .ok (.bipush 61, 2) := dw_16 wX10_compare_c 61 rfl rfl rfl
theorem dX10_compare_73 : decode cX10_compare 73 = .ok (.if_icmp .eq 19, 3) := dw_159 wX10_compare_c 0 19 rfl rfl rfl
theorem dX10_compare_76 : decode cX10_compare 76 = .ok (.iload_n 2, 1) := dw_28 wX10_compare_c rfl
theorem dX10_compare_77 : decode cX10_compare 77 = .ok (.bipush 62, 2) := dw_16 wX10_compare_c 62 rfl rfl rfl
theorem dX10_compare_79 : decode cX10_compare 79 = .ok (.if_icmp .eq 13, 3) := dw_159 wX10_compare_c 0 13 rfl rfl rfl
theorem dX10_compare_82 : decode cX10_compare 82 = .ok (.aload_n 0, 1) := dw_42 wX10_compare_c rfl
theorem dX10_compare_83 : decode cX10_compare 83 = .ok (.iconst 0, 1) := dw_3 wX10_compare_c rfl
theorem dX10_compare_84 : decode cX10_compare 84 = .ok (.aload_n 0, 1) := dw_42 wX10_compare_c rfl
theorem dX10_compare_85 : decode cX10_compare 85 = .ok (.getfield 245, 3) := dw_180 wX10_compare_c 0 245 rfl rfl
theorem dX10_compare_88 : decode cX10_compare 88 = .ok (.invokevirtual 255, 3) := dw_182 wX10_compare_c 0 255 rfl rfl
theorem dX10_compare_91 : decode cX10_compare 91 = .ok (.ireturn, 1) := dw_172 wX10_compare_c rfl
theorem dX10_compare_92 : decode cX10_compare 92 = .ok (.aload_n 0, 1) := dw_42 wX10_compare_c rfl
theorem dX10_compare_93 : decode cX10_compare 93 = .ok (.dup, 1) := dw_89 wX10_compare_c rfl
theorem dX10_compare_94 : decode cX10_compare 94 = .ok (.getfield 245, 3) := dw_180 wX10_compare_c 0 245 rfl rfl
theorem dX10_compare_97 : decode cX10_compare 97 = .ok (.iconst 1, 1) := dw_4 wX10_compare_c rfl
theorem dX10_compare_98 : decode cX10_compare 98 = .ok (.iadd, 1) := dw_96 wX10_compare_c rfl
theorem dX10_compare_99 : decode cX10_compare 99 = .ok (.putfield 245, 3) := dw_181 wX10_compare_c 0 245 rfl rfl
theorem dX10_compare_102 : decode cX10_compare 102 = .ok (.iload_n 2, 1) := dw_28 wX10_compare_c rfl
theorem dX10_compare_103 : decode cX10_compare 103 = .ok (.bipush 61, 2) := dw_16 wX10_compare_c 61 rfl rfl rfl
theorem dX10_compare_105 : decode cX10_compare 105 = .ok (.if_icmp .eq 32, 3) := dw_159 wX10_compare_c 0 32 rfl rfl rfl
theorem dX10_compare_108 : decode cX10_compare 108 = .ok (.aload_n 0, 1) := dw_42 wX10_compare_c rfl
theorem dX10_compare_109 : decode cX10_compare 109 = .ok (.getfield 245, 3) := dw_180 wX10_compare_c 0 245 rfl rfl
theorem dX10_compare_112 : decode cX10_compare 112 = .ok (.aload_n 0, 1) := dw_42 wX10_compare_c rfl
theorem dX10_compare_113 : decode cX10_compare 113 = .ok (.getfield 236, 3) := dw_180 wX10_compare_c 0 236 rfl rfl
theorem dX10_compare_116 : decode cX10_compare 116 = .ok (.if_icmp .ge 21, 3) := dw_162 wX10_compare_c 0 21 rfl rfl rfl
theorem dX10_compare_119 : decode cX10_compare 119 = .ok (.aload_n 0, 1) := dw_42 wX10_compare_c rfl
theorem dX10_compare_120 : decode cX10_compare 120 = .ok (.getfield 22, 3) := dw_180 wX10_compare_c 0 22 rfl rfl
theorem dX10_compare_123 : decode cX10_compare 123 = .ok (.aload_n 0, 1) := dw_42 wX10_compare_c rfl
theorem dX10_compare_124 : decode cX10_compare 124 = .ok (.getfield 245, 3) := dw_180 wX10_compare_c 0 245 rfl rfl
theorem dX10_compare_127 : decode cX10_compare 127 = .ok (.baload, 1) := dw_51 wX10_compare_c rfl
theorem dX10_compare_128 : decode cX10_compare 128 = .ok (.bipush 61, 2) := dw_16 wX10_compare_c 61 rfl rfl rfl
theorem dX10_compare_130 : decode cX10_compare 130 = .ok (.if_icmp .ne 7, 3) := dw_160 wX10_compare_c 0 7 rfl rfl rfl
theorem dX10_compare_133 : decode cX10_compare 133 = .ok (.iconst 1, 1) := dw_4 wX10_compare_c rfl
theorem dX10_compare_134 : decode cX10_compare 134 = .ok (.goto 4, 3) := dw_167 wX10_compare_c 0 4 rfl rfl rfl
theorem dX10_compare_137 : decode cX10_compare 137 = .ok (.iconst 0, 1) := dw_3 wX10_compare_c rfl
theorem dX10_compare_138 : decode cX10_compare 138 = .ok (.istore_n 3, 1) := dw_62 wX10_compare_c rfl
theorem dX10_compare_139 : decode cX10_compare 139 = .ok (.iload_n 3, 1) := dw_29 wX10_compare_c rfl
theorem dX10_compare_140 : decode cX10_compare 140 = .ok (.ifCond .eq 13, 3) := dw_153 wX10_compare_c 0 13 rfl rfl rfl
theorem dX10_compare_143 : decode cX10_compare 143 = .ok (.aload_n 0, 1) := dw_42 wX10_compare_c rfl
theorem dX10_compare_144 : decode cX10_compare 144 = .ok (.dup, 1) := dw_89 wX10_compare_c rfl
theorem dX10_compare_145 : decode cX10_compare 145 = .ok (.getfield 245, 3) := dw_180 wX10_compare_c 0 245 rfl rfl
theorem dX10_compare_148 : decode cX10_compare 148 = .ok (.iconst 1, 1) := dw_4 wX10_compare_c rfl
theorem dX10_compare_149 : decode cX10_compare 149 = .ok (.iadd, 1) := dw_96 wX10_compare_c rfl
theorem dX10_compare_150 : decode cX10_compare 150 = .ok (.putfield 245, 3) := dw_181 wX10_compare_c 0 245 rfl rfl
theorem dX10_compare_153 : decode cX10_compare 153 = .ok (.iload_n 2, 1) := dw_28 wX10_compare_c rfl
theorem dX10_compare_154 : decode cX10_compare 154 = .ok (.bipush 60, 2) := dw_16 wX10_compare_c 60 rfl rfl rfl
theorem dX10_compare_156 : decode cX10_compare 156 = .ok (.if_icmp .ne 15, 3) := dw_160 wX10_compare_c 0 15 rfl rfl rfl
theorem dX10_compare_159 : decode cX10_compare 159 = .ok (.iload_n 3, 1) := dw_29 wX10_compare_c rfl
theorem dX10_compare_160 : decode cX10_compare 160 = .ok (.ifCond .eq 7, 3) := dw_153 wX10_compare_c 0 7 rfl rfl rfl
theorem dX10_compare_163 : decode cX10_compare 163 = .ok (.iconst 1, 1) := dw_4 wX10_compare_c rfl
theorem dX10_compare_164 : decode cX10_compare 164 = .ok (.goto 26, 3) := dw_167 wX10_compare_c 0 26 rfl rfl rfl
theorem dX10_compare_167 : decode cX10_compare 167 = .ok (.iconst 0, 1) := dw_3 wX10_compare_c rfl
theorem dX10_compare_168 : decode cX10_compare 168 = .ok (.goto 22, 3) := dw_167 wX10_compare_c 0 22 rfl rfl rfl
theorem dX10_compare_171 : decode cX10_compare 171 = .ok (.iload_n 2, 1) := dw_28 wX10_compare_c rfl
theorem dX10_compare_172 : decode cX10_compare 172 = .ok (.bipush 61, 2) := dw_16 wX10_compare_c 61 rfl rfl rfl
theorem dX10_compare_174 : decode cX10_compare 174 = .ok (.if_icmp .ne 7, 3) := dw_160 wX10_compare_c 0 7 rfl rfl rfl
theorem dX10_compare_177 : decode cX10_compare 177 = .ok (.iconst 2, 1) := dw_5 wX10_compare_c rfl
theorem dX10_compare_178 : decode cX10_compare 178 = .ok (.goto 12, 3) := dw_167 wX10_compare_c 0 12 rfl rfl rfl
theorem dX10_compare_181 : decode cX10_compare 181 = .ok (.iload_n 3, 1) := dw_29 wX10_compare_c rfl
theorem dX10_compare_182 : decode cX10_compare 182 = .ok (.ifCond .eq 7, 3) := dw_153 wX10_compare_c 0 7 rfl rfl rfl
theorem dX10_compare_185 : decode cX10_compare 185 = .ok (.iconst 3, 1) := dw_6 wX10_compare_c rfl
theorem dX10_compare_186 : decode cX10_compare 186 = .ok (.goto 4, 3) := dw_167 wX10_compare_c 0 4 rfl rfl rfl
theorem dX10_compare_189 : decode cX10_compare 189 = .ok (.iconst 4, 1) := dw_7 wX10_compare_c rfl
theorem dX10_compare_190 : decode cX10_compare 190 = .ok (.istore 4, 2) := dw_54 wX10_compare_c 4 rfl
theorem dX10_compare_192 : decode cX10_compare 192 = .ok (.aload_n 0, 1) := dw_42 wX10_compare_c rfl
theorem dX10_compare_193 : decode cX10_compare 193 = .ok (.invokevirtual 277, 3) := dw_182 wX10_compare_c 1 21 rfl rfl
theorem dX10_compare_196 : decode cX10_compare 196 = .ok (.istore 5, 2) := dw_54 wX10_compare_c 5 rfl
theorem dX10_compare_198 : decode cX10_compare 198 = .ok (.iload 5, 2) := dw_21 wX10_compare_c 5 rfl
theorem dX10_compare_200 : decode cX10_compare 200 = .ok (.invokestatic 270, 3) := dw_184 wX10_compare_c 1 14 rfl rfl
theorem dX10_compare_203 : decode cX10_compare 203 = .ok (.ifCond .eq 38, 3) := dw_153 wX10_compare_c 0 38 rfl rfl rfl
theorem dX10_compare_206 : decode cX10_compare 206 = .ok (.aload_n 0, 1) := dw_42 wX10_compare_c rfl
theorem dX10_compare_207 : decode cX10_compare 207 = .ok (.dup, 1) := dw_89 wX10_compare_c rfl
theorem dX10_compare_208 : decode cX10_compare 208 = .ok (.getfield 245, 3) := dw_180 wX10_compare_c 0 245 rfl rfl
theorem dX10_compare_211 : decode cX10_compare 211 = .ok (.aload_n 0, 1) := dw_42 wX10_compare_c rfl
theorem dX10_compare_212 : decode cX10_compare 212 = .ok (.getfield 252, 3) := dw_180 wX10_compare_c 0 252 rfl rfl
theorem dX10_compare_215 : decode cX10_compare 215 = .ok (.iadd, 1) := dw_96 wX10_compare_c rfl
theorem dX10_compare_216 : decode cX10_compare 216 = .ok (.putfield 245, 3) := dw_181 wX10_compare_c 0 245 rfl rfl
theorem dX10_compare_219 : decode cX10_compare 219 = .ok (.aload_n 0, 1) := dw_42 wX10_compare_c rfl
theorem dX10_compare_220 : decode cX10_compare 220 = .ok (.iload_n 1, 1) := dw_27 wX10_compare_c rfl
theorem dX10_compare_221 : decode cX10_compare 221 = .ok (.iconst 3, 1) := dw_6 wX10_compare_c rfl
theorem dX10_compare_222 : decode cX10_compare 222 = .ok (.isub, 1) := dw_100 wX10_compare_c rfl
theorem dX10_compare_223 : decode cX10_compare 223 = .ok (.iload 4, 2) := dw_21 wX10_compare_c 4 rfl
theorem dX10_compare_225 : decode cX10_compare 225 = .ok (.sipush 10000, 3) := dw_17 wX10_compare_c 39 16 rfl rfl rfl
theorem dX10_compare_228 : decode cX10_compare 228 = .ok (.iload 5, 2) := dw_21 wX10_compare_c 5 rfl
theorem dX10_compare_230 : decode cX10_compare 230 = .ok (.iadd, 1) := dw_96 wX10_compare_c rfl
theorem dX10_compare_231 : decode cX10_compare 231 = .ok (.iconst 3, 1) := dw_6 wX10_compare_c rfl
theorem dX10_compare_232 : decode cX10_compare 232 = .ok (.isub, 1) := dw_100 wX10_compare_c rfl
theorem dX10_compare_233 : decode cX10_compare 233 = .ok (.invokestatic 280, 3) := dw_184 wX10_compare_c 1 24 rfl rfl
theorem dX10_compare_236 : decode cX10_compare 236 = .ok (.invokevirtual 284, 3) := dw_182 wX10_compare_c 1 28 rfl rfl
theorem dX10_compare_239 : decode cX10_compare 239 = .ok (.iconst 1, 1) := dw_4 wX10_compare_c rfl
theorem dX10_compare_240 : decode cX10_compare 240 = .ok (.ireturn, 1) := dw_172 wX10_compare_c rfl
theorem dX10_compare_241 : decode cX10_compare 241 = .ok (.aload_n 0, 1) := dw_42 wX10_compare_c rfl
theorem dX10_compare_242 : decode cX10_compare 242 = .ok (.iconst 0, 1) := dw_3 wX10_compare_c rfl
theorem dX10_compare_243 : decode cX10_compare 243 = .ok (.sipush 9999, 3) := dw_17 wX10_compare_c 39 15 rfl rfl rfl
theorem dX10_compare_246 : decode cX10_compare 246 = .ok (.invokevirtual 287, 3) := dw_182 wX10_compare_c 1 31 rfl rfl
theorem dX10_compare_249 : decode cX10_compare 249 = .ok (.ifCond .ne 5, 3) := dw_154 wX10_compare_c 0 5 rfl rfl rfl
theorem dX10_compare_252 : decode cX10_compare 252 = .ok (.iconst 0, 1) := dw_3 wX10_compare_c rfl
theorem dX10_compare_253 : decode cX10_compare 253 = .ok (.ireturn, 1) := dw_172 wX10_compare_c rfl
theorem dX10_compare_254 : decode cX10_compare 254 = .ok (.aload_n 0, 1) := dw_42 wX10_compare_c rfl
theorem dX10_compare_255 : decode cX10_compare 255 = .ok (.iload_n 1, 1) := dw_27 wX10_compare_c rfl
theorem dX10_compare_256 : decode cX10_compare 256 = .ok (.iconst 3, 1) := dw_6 wX10_compare_c rfl
theorem dX10_compare_257 : decode cX10_compare 257 = .ok (.isub, 1) := dw_100 wX10_compare_c rfl
theorem dX10_compare_258 : decode cX10_compare 258 = .ok (.iload 4, 2) := dw_21 wX10_compare_c 4 rfl
theorem dX10_compare_260 : decode cX10_compare 260 = .ok (.aload_n 0, 1) := dw_42 wX10_compare_c rfl
theorem dX10_compare_261 : decode cX10_compare 261 = .ok (.getfield 259, 3) := dw_180 wX10_compare_c 1 3 rfl rfl
theorem dX10_compare_264 : decode cX10_compare 264 = .ok (.invokestatic 280, 3) := dw_184 wX10_compare_c 1 24 rfl rfl
theorem dX10_compare_267 : decode cX10_compare 267 = .ok (.invokevirtual 284, 3) := dw_182 wX10_compare_c 1 28 rfl rfl
theorem dX10_compare_270 : decode cX10_compare 270 = .ok (.iconst 1, 1) := dw_4 wX10_compare_c rfl
theorem dX10_compare_271 : decode cX10_compare 271 = .ok (.ireturn, 1) := dw_172 wX10_compare_c rfl