def wNX10_looks : Nat := 658975538676096360932376216859070603905081368869704142679831820608738499930383355394201314441039986317324112260093928334410189550751069975594733845902966024038670812067925881948902715821353461358513519174444301972161353927985774678077317759768030378845063917272930302835887875870170867865297834839497112844864930613757609076109939609842793902910771693197113023592917900796867204059598555882208875503658370306145518939050338533721696157184171104135717792672508412511298530017488165919269804063726519386331217608734425936435608013318315941697264388858811648294128248091187167007990149134518735612543180805154394165993606828707497603741532180146361471412234389293816930719522608987750717224632994414839625409854213592451085900296131717840219739785726711900421802490345140577778001314988478968902901193751711654884231154157019310913853795166340953575402369195224497043415050516741542534539545295487694137421585540691133040714576048636442113647046025618070219383838533484605607792159626394648672710781754664413960103787720114734750823670717590767162379668198434378452174561671787973040449134267206389060611303727338152912189033385051891675553412375499014955772784790612259637595473261374822478109569935416762487793059695493930
theorem wX10_looks_c : hz_cd cX10_looks wNX10_looks 507 := ⟨by decide +kernel, by decide +kernel⟩
theorem dX10_looks_0 : decode cX10_looks 0 = .ok (.aload_n 0, 1) := dw_42 wX10_looks_c rfl
theorem dX10_looks_1 : decode cX10_looks 1 = .ok (.iconst 0, 1) := dw_3 wX10_looks_c rfl
theorem dX10_looks_2 : decode cX10_looks 2 = .ok (.putfield 398, 3) := dw_181 wX10_looks_c 1 142 rfl rfl
theorem dX10_looks_5 : decode cX10_looks 5 = .ok (.aload_n 0, 1) := dw_42 wX10_looks_c rfl
theorem dX10_looks_6 : decode cX10_looks 6 = .ok (.iconst 0, 1) := dw_3 wX10_looks_c rfl
theorem dX10_looks_7 : decode cX10_looks 7 = .ok (.putfield 401, 3) := dw_181 wX10_looks_c 1 145 rfl rfl
theorem dX10_looks_10 : decode cX10_looks 10 = .ok (.aload_n 0, 1) := dw_42 wX10_looks_c rfl
theorem dX10_looks_11 : decode cX10_looks 11 = .ok (.iconst 0, 1) := dw_3 wX10_looks_c rfl
theorem dX10_looks_12 : decode cX10_looks 12 = .ok (.putfield 404, 3) := dw_181 wX10_looks_c 1 148 rfl rfl
theorem dX10_looks_15 : decode cX10_looks 15 = .ok (.aload_n 0, 1) := dw_42 wX10_looks_c rfl
theorem dX10_looks_16 : decode cX10_looks 16 = .ok (.iconst 0, 1) := dw_3 wX10_looks_c rfl
theorem dX10_looks_17 : decode cX10_looks 17 = .ok (.putfield 407, 3) := dw_181 wX10_looks_c 1 151 rfl rfl
theorem dX10_looks_20 : decode cX10_looks 20 = .ok (.aload_n 0, 1) := dw_42 wX10_looks_c rfl
theorem dX10_looks_21 : decode cX10_looks 21 = .ok (.aload_n 0, 1) := dw_42 wX10_looks_c rfl
theorem dX10_looks_22 : decode cX10_looks 22 = .ok (.getfield 108, 3) := dw_180 wX10_looks_c 0 108 rfl rfl
theorem dX10_looks_25 : decode cX10_looks 25 = .ok (.iload_n 1, 1) := dw_27 wX10_looks_c rfl
theorem dX10_looks_26 : decode cX10_looks 26 = .ok (.iaload, 1) := dw_46 wX10_looks_c rfl
theorem dX10_looks_27 : decode cX10_looks 27 = .ok (.iconst (-1), 1) := dw_2 wX10_looks_c rfl
theorem dX10_looks_28 : decode cX10_looks 28 = .ok (.if_icmp .eq 17, 3) := dw_159 wX10_looks_c 0 17 rfl rfl rfl
theorem dX10_looks_31 : decode cX10_looks 31 = .ok (.aload_n 0, 1) := dw_42 wX10_looks_c rfl
theorem dX10_looks_32 : decode cX10_looks 32 = .ok (.getfield 108, 3) := dw_180 wX10_looks_c 0 108 rfl rfl
theorem dX10_looks_35 : decode cX10_looks 35 = .ok (.iload_n 1, 1) := dw_27 wX10_looks_c rfl
theorem dX10_looks_36 : decode cX10_looks 36 = .ok (.iaload, 1) := dw_46 wX10_looks_c rfl
theorem dX10_looks_37 : decode cX10_looks 37 = .ok (.iload_n 2, 1) := dw_28 wX10_looks_c rfl
theorem dX10_looks_38 : decode cX10_looks 38 = .ok (.if_icmp .gt 7, 3) := dw_163 wX10_looks_c 0 7 rfl rfl rfl
theorem dX10_looks_41 : decode cX10_looks 41 = .ok (.iconst 1, 1) := dw_4 wX10_looks_c rfl
theorem dX10_looks_42 : decode cX10_looks 42 = .ok (.goto 4, 3) := dw_167 wX10_looks_c 0 4 rfl rfl rfl
theorem dX10_looks_45 : decode cX10_looks 45 = .ok (.iconst 0, 1) := dw_3 wX10_looks_c rfl
theorem dX10_looks_46 : decode cX10_looks 46 = .ok (.putfield 410, 3) := dw_181 wX10_looks_c 1 154 rfl rfl
theorem dX10_looks_49 : decode cX10_looks 49 = .ok (.aload_n 0, 1) := dw_42 wX10_looks_c rfl
theorem dX10_looks_50 : decode cX10_looks 50 = .ok (.getfield 111, 3) := dw_180 wX10_looks_c 0 111 rfl rfl
theorem dX10_looks_53 : decode cX10_looks 53 = .ok (.iload_n 1, 1) := dw_27 wX10_looks_c rfl
theorem dX10_looks_54 : decode cX10_looks 54 = .ok (.iaload, 1) := dw_46 wX10_looks_c rfl
theorem dX10_looks_55 : decode cX10_looks 55 = .ok (.iconst (-1), 1) := dw_2 wX10_looks_c rfl
theorem dX10_looks_56 : decode cX10_looks 56 = .ok (.if_icmp .eq 32, 3) := dw_159 wX10_looks_c 0 32 rfl rfl rfl
theorem dX10_looks_59 : decode cX10_looks 59 = .ok (.aload_n 0, 1) := dw_42 wX10_looks_c rfl
theorem dX10_looks_60 : decode cX10_looks 60 = .ok (.getfield 111, 3) := dw_180 wX10_looks_c 0 111 rfl rfl
theorem dX10_looks_63 : decode cX10_looks 63 = .ok (.iload_n 1, 1) := dw_27 wX10_looks_c rfl
theorem dX10_looks_64 : decode cX10_looks 64 = .ok (.iaload, 1) := dw_46 wX10_looks_c rfl
theorem dX10_looks_65 : decode cX10_looks 65 = .ok (.iload_n 2, 1) := dw_28 wX10_looks_c rfl
theorem dX10_looks_66 : decode cX10_looks 66 = .ok (.if_icmp .gt 22, 3) := dw_163 wX10_looks_c 0 22 rfl rfl rfl
theorem dX10_looks_69 : decode cX10_looks 69 = .ok (.aload_n 0, 1) := dw_42 wX10_looks_c rfl
theorem dX10_looks_70 : decode cX10_looks 70 = .ok (.aload_n 0, 1) := dw_42 wX10_looks_c rfl
theorem dX10_looks_71 : decode cX10_looks 71 = .ok (.getfield 123, 3) := dw_180 wX10_looks_c 0 123 rfl rfl
theorem dX10_looks_74 : decode cX10_looks 74 = .ok (.iload_n 1, 1) := dw_27 wX10_looks_c rfl
theorem dX10_looks_75 : decode cX10_looks 75 = .ok (.iaload, 1) := dw_46 wX10_looks_c rfl
theorem dX10_looks_76 : decode cX10_looks 76 = .ok (.iconst 5, 1) := dw_8 wX10_looks_c rfl
theorem dX10_looks_77 : decode cX10_looks 77 = .ok (.if_icmp .ne 7, 3) := dw_160 wX10_looks_c 0 7 rfl rfl rfl
theorem dX10_looks_80 : decode cX10_looks 80 = .ok (.iconst 3, 1) := dw_6 wX10_looks_c rfl
theorem dX10_looks_81 : decode cX10_looks 81 = .ok (.goto 4, 3) := dw_167 wX10_looks_c 0 4 rfl rfl rfl
theorem dX10_looks_84 : decode cX10_looks 84 = .ok (.iconst 2, 1) := dw_5 wX10_looks_c rfl
theorem dX10_looks_85 : decode cX10_looks 85 = .ok (.putfield 410, 3) := dw_181 wX10_looks_c 1 154 rfl rfl
theorem dX10_looks_88 : decode cX10_looks 88 = .ok (.aload_n 0, 1) := dw_42 wX10_looks_c rfl
theorem dX10_looks_89 : decode cX10_looks 89 = .ok (.getfield 114, 3) := dw_180 wX10_looks_c 0 114 rfl rfl
theorem dX10_looks_92 : decode cX10_looks 92 = .ok (.iload_n 1, 1) := dw_27 wX10_looks_c rfl
theorem dX10_looks_93 : decode cX10_looks 93 = .ok (.iaload, 1) := dw_46 wX10_looks_c rfl
theorem dX10_looks_94 : decode cX10_looks 94 = .ok (.iconst (-1), 1) := dw_2 wX10_looks_c rfl
theorem dX10_looks_95 : decode cX10_looks 95 = .ok (.if_icmp .eq 13, 3) := dw_159 wX10_looks_c 0 13 rfl rfl rfl
theorem dX10_looks_98 : decode cX10_looks 98 = .ok (.aload_n 0, 1) := dw_42 wX10_looks_c rfl
theorem dX10_looks_99 : decode cX10_looks 99 = .ok (.getfield 114, 3) := dw_180 wX10_looks_c 0 114 rfl rfl
theorem dX10_looks_102 : decode cX10_looks 102 = .ok (.iload_n 1, 1) := dw_27 wX10_looks_c rfl
theorem dX10_looks_103 : decode cX10_looks 103 = .ok (.iaload, 1) := dw_46 wX10_looks_c rfl
theorem dX10_looks_104 : decode cX10_looks 104 = .ok (.iload_n 2, 1) := dw_28 wX10_looks_c rfl
theorem dX10_looks_105 : decode cX10_looks 105 = .ok (.if_icmp .le 4, 3) := dw_164 wX10_looks_c 0 4 rfl rfl rfl
theorem dX10_looks_108 : decode cX10_looks 108 = .ok (.return_, 1) := dw_177 wX10_looks_c rfl
theorem dX10_looks_109 : decode cX10_looks 109 = .ok (.aload_n 0, 1) := dw_42 wX10_looks_c rfl
theorem dX10_looks_110 : decode cX10_looks 110 = .ok (.getfield 117, 3) := dw_180 wX10_looks_c 0 117 rfl rfl
theorem dX10_looks_113 : decode cX10_looks 113 = .ok (.iload_n 1, 1) := dw_27 wX10_looks_c rfl
theorem dX10_looks_114 : decode cX10_looks 114 = .ok (.iaload, 1) := dw_46 wX10_looks_c rfl
theorem dX10_looks_115 : decode cX10_looks 115 = .ok (.iconst (-1), 1) := dw_2 wX10_looks_c rfl
theorem dX10_looks_116 : decode cX10_looks 116 = .ok (.if_icmp .eq 17, 3) := dw_159 wX10_looks_c 0 17 rfl rfl rfl
theorem dX10_looks_119 : decode cX10_looks 119 = .ok (.aload_n 0, 1) := dw_42 wX10_looks_c rfl
theorem dX10_looks_120 : decode cX10_looks 120 = .ok (.getfield 117, 3) := dw_180 wX10_looks_c 0 117 rfl rfl
theorem dX10_looks_123 : decode cX10_looks 123 = .ok (.iload_n 1, 1) := dw_27 wX10_looks_c rfl
theorem dX10_looks_124 : decode cX10_looks 124 = .ok (.iaload, 1) := dw_46 wX10_looks_c rfl
theorem dX10_looks_125 : decode cX10_looks 125 = .ok (.iload_n 2, 1) := dw_28 wX10_looks_c rfl
theorem dX10_looks_126 : decode cX10_looks 126 = .ok (.if_icmp .gt 7, 3) := dw_163 wX10_looks_c 0 7 rfl rfl rfl
theorem dX10_looks_129 : decode cX10_looks 129 = .ok (.iconst 1, 1) := dw_4 wX10_looks_c rfl
theorem dX10_looks_130 : decode cX10_looks 130 = .ok (.goto 4, 3) := dw_167 wX10_looks_c 0 4 rfl rfl rfl
theorem dX10_looks_133 : decode cX10_looks 133 = .ok (.iconst 0, 1) := dw_3 wX10_looks_c rfl
theorem dX10_looks_134 : decode cX10_looks 134 = .ok (.istore 4, 2) := dw_54 wX10_looks_c 4 rfl
theorem dX10_looks_136 : decode cX10_looks 136 = .ok (.iconst 0, 1) := dw_3 wX10_looks_c rfl
theorem dX10_looks_137 : decode cX10_looks 137 = .ok (.istore 5, 2) := dw_54 wX10_looks_c 5 rfl
theorem dX10_looks_139 : decode cX10_looks 139 = .ok (.iload 5, 2) := dw_21 wX10_looks_c 5 rfl
theorem dX10_looks_141 : decode cX10_looks 141 = .ok (.aload_n 0, 1) := dw_42 wX10_looks_c rfl
theorem dX10_looks_142 : decode cX10_looks 142 = .ok (.getfield 413, 3) := dw_180 wX10_looks_c 1 157 rfl rfl
theorem dX10_looks_145 : decode cX10_looks 145 = .ok (.if_icmp .ge 80, 3) := dw_162 wX10_looks_c 0 80 rfl rfl rfl
theorem dX10_looks_148 : decode cX10_looks 148 = .ok (.aload_n 0, 1) := dw_42 wX10_looks_c rfl
theorem dX10_looks_149 : decode cX10_looks 149 = .ok (.getfield 144, 3) := dw_180 wX10_looks_c 0 144 rfl rfl
theorem dX10_looks_152 : decode cX10_looks 152 = .ok (.iload 5, 2) := dw_21 wX10_looks_c 5 rfl
theorem dX10_looks_154 : decode cX10_looks 154 = .ok (.iaload, 1) := dw_46 wX10_looks_c rfl
theorem dX10_looks_155 : decode cX10_looks 155 = .ok (.iload_n 1, 1) := dw_27 wX10_looks_c rfl
theorem dX10_looks_156 : decode cX10_looks 156 = .ok (.if_icmp .ne 63, 3) := dw_160 wX10_looks_c 0 63 rfl rfl rfl
theorem dX10_looks_159 : decode cX10_looks 159 = .ok (.aload_n 0, 1) := dw_42 wX10_looks_c rfl
theorem dX10_looks_160 : decode cX10_looks 160 = .ok (.getfield 147, 3) := dw_180 wX10_looks_c 0 147 rfl rfl
theorem dX10_looks_163 : decode cX10_looks 163 = .ok (.iload 5, 2) := dw_21 wX10_looks_c 5 rfl
theorem dX10_looks_165 : decode cX10_looks 165 = .ok (.iaload, 1) := dw_46 wX10_looks_c rfl
theorem dX10_looks_166 : decode cX10_looks 166 = .ok (.iload_n 2, 1) := dw_28 wX10_looks_c rfl
theorem dX10_looks_167 : decode cX10_looks 167 = .ok (.if_icmp .gt 52, 3) := dw_163 wX10_looks_c 0 52 rfl rfl rfl
theorem dX10_looks_170 : decode cX10_looks 170 = .ok (.aload_n 0, 1) := dw_42 wX10_looks_c rfl
theorem dX10_looks_171 : decode cX10_looks 171 = .ok (.getfield 153, 3) := dw_180 wX10_looks_c 0 153 rfl rfl
theorem dX10_looks_174 : decode cX10_looks 174 = .ok (.iload 5, 2) := dw_21 wX10_looks_c 5 rfl
theorem dX10_looks_176 : decode cX10_looks 176 = .ok (.iaload, 1) := dw_46 wX10_looks_c rfl
theorem dX10_looks_177 : decode cX10_looks 177 = .ok (.iload_n 3, 1) := dw_29 wX10_looks_c rfl
theorem dX10_looks_178 : decode cX10_looks 178 = .ok (.if_icmp .gt 41, 3) := dw_163 wX10_looks_c 0 41 rfl rfl rfl
theorem dX10_looks_181 : decode cX10_looks 181 = .ok (.aload_n 0, 1) := dw_42 wX10_looks_c rfl
theorem dX10_looks_182 : decode cX10_looks 182 = .ok (.getfield 156, 3) := dw_180 wX10_looks_c 0 156 rfl rfl
theorem dX10_looks_185 : decode cX10_looks 185 = .ok (.iload 5, 2) := dw_21 wX10_looks_c 5 rfl
theorem dX10_looks_187 : decode cX10_looks 187 = .ok (.iaload, 1) := dw_46 wX10_looks_c rfl
theorem dX10_looks_188 : decode cX10_looks 188 = .ok (.iconst (-1), 1) := dw_2 wX10_looks_c rfl
theorem dX10_looks_189 : decode cX10_looks 189 = .ok (.if_icmp .eq 14, 3) := dw_159 wX10_looks_c 0 14 rfl rfl rfl
theorem dX10_looks_192 : decode cX10_looks 192 = .ok (.aload_n 0, 1) := dw_42 wX10_looks_c rfl
theorem dX10_looks_193 : decode cX10_looks 193 = .ok (.getfield 156, 3) := dw_180 wX10_looks_c 0 156 rfl rfl
theorem dX10_looks_196 : decode cX10_looks 196 = .ok (.iload 5, 2) := dw_21 wX10_looks_c 5 rfl
theorem dX10_looks_198 : decode cX10_looks 198 = .ok (.iaload, 1) := dw_46 wX10_looks_c rfl
theorem dX10_looks_199 : decode cX10_looks 199 = .ok (.iload_n 3, 1) := dw_29 wX10_looks_c rfl
theorem dX10_looks_200 : decode cX10_looks 200 = .ok (.if_icmp .le 19, 3) := dw_164 wX10_looks_c 0 19 rfl rfl rfl
theorem dX10_looks_203 : decode cX10_looks 203 = .ok (.aload_n 0, 1) := dw_42 wX10_looks_c rfl
theorem dX10_looks_204 : decode cX10_looks 204 = .ok (.dup, 1) := dw_89 wX10_looks_c rfl
theorem dX10_looks_205 : decode cX10_looks 205 = .ok (.getfield 398, 3) := dw_180 wX10_looks_c 1 142 rfl rfl
theorem dX10_looks_208 : decode cX10_looks 208 = .ok (.aload_n 0, 1) := dw_42 wX10_looks_c rfl
theorem dX10_looks_209 : decode cX10_looks 209 = .ok (.getfield 150, 3) := dw_180 wX10_looks_c 0 150 rfl rfl
theorem dX10_looks_212 : decode cX10_looks 212 = .ok (.iload 5, 2) := dw_21 wX10_looks_c 5 rfl
theorem dX10_looks_214 : decode cX10_looks 214 = .ok (.iaload, 1) := dw_46 wX10_looks_c rfl
theorem dX10_looks_215 : decode cX10_looks 215 = .ok (.iadd, 1) := dw_96 wX10_looks_c rfl
theorem dX10_looks_216 : decode cX10_looks 216 = .ok (.putfield 398, 3) := dw_181 wX10_looks_c 1 142 rfl rfl
theorem dX10_looks_219 : decode cX10_looks 219 = .ok (.iinc 5 1, 3) := dw_132 wX10_looks_c 5 1 rfl rfl rfl
theorem dX10_looks_222 : decode cX10_looks 222 = .ok (.goto (-83), 3) := dn_167 wX10_looks_c 255 173 rfl (by decide)
theorem dX10_looks_225 : decode cX10_looks 225 = .ok (.aload_n 0, 1) := dw_42 wX10_looks_c rfl
theorem dX10_looks_226 : decode cX10_looks 226 = .ok (.dup, 1) := dw_89 wX10_looks_c rfl
theorem dX10_looks_227 : decode cX10_looks 227 = .ok (.getfield 398, 3) := dw_180 wX10_looks_c 1 142 rfl rfl
theorem dX10_looks_230 : decode cX10_looks 230 = .ok (.iload 4, 2) := dw_21 wX10_looks_c 4 rfl
theorem dX10_looks_232 : decode cX10_looks 232 = .ok (.ifCond .eq 12, 3) := dw_153 wX10_looks_c 0 12 rfl rfl rfl
theorem dX10_looks_235 : decode cX10_looks 235 = .ok (.aload_n 0, 1) := dw_42 wX10_looks_c rfl
theorem dX10_looks_236 : decode cX10_looks 236 = .ok (.getfield 138, 3) := dw_180 wX10_looks_c 0 138 rfl rfl
theorem dX10_looks_239 : decode cX10_looks 239 = .ok (.iload_n 1, 1) := dw_27 wX10_looks_c rfl
theorem dX10_looks_240 : decode cX10_looks 240 = .ok (.iaload, 1) := dw_46 wX10_looks_c rfl
theorem dX10_looks_241 : decode cX10_looks 241 = .ok (.goto 4, 3) := dw_167 wX10_looks_c 0 4 rfl rfl rfl
theorem dX10_looks_244 : decode cX10_looks 244 = .ok (.iconst 0, 1) := dw_3 wX10_looks_c rfl
theorem dX10_looks_245 : decode cX10_looks 245 = .ok (.iadd, 1) := dw_96 wX10_looks_c rfl
theorem dX10_looks_246 : decode cX10_looks 246 = .ok (.putfield 398, 3) := dw_181 wX10_looks_c 1 142 rfl rfl
theorem dX10_looks_249 : decode cX10_looks 249 = .ok (.aload_n 0, 1) := dw_42 wX10_looks_c rfl
theorem dX10_looks_250 : decode cX10_looks 250 = .ok (.getfield 135, 3) := dw_180 wX10_looks_c 0 135 rfl rfl
theorem dX10_looks_253 : decode cX10_looks 253 = .ok (.iload_n 1, 1) := dw_27 wX10_looks_c rfl
theorem dX10_looks_254 : decode cX10_looks 254 = .ok (.iaload, 1) := dw_46 wX10_looks_c rfl
theorem dX10_looks_255 : decode cX10_looks 255 = .ok (.iload 4, 2) := dw_21 wX10_looks_c 4 rfl
theorem dX10_looks_257 : decode cX10_looks 257 = .ok (.ifCond .eq 18, 3) := dw_153 wX10_looks_c 0 18 rfl rfl rfl
theorem dX10_looks_260 : decode cX10_looks 260 = .ok (.aload_n 0, 1) := dw_42 wX10_looks_c rfl
theorem dX10_looks_261 : decode cX10_looks 261 = .ok (.aload_n 0, 1) := dw_42 wX10_looks_c rfl
theorem dX10_looks_262 : decode cX10_looks 262 = .ok (.getfield 102, 3) := dw_180 wX10_looks_c 0 102 rfl rfl
theorem dX10_looks_265 : decode cX10_looks 265 = .ok (.iload_n 1, 1) := dw_27 wX10_looks_c rfl
theorem dX10_looks_266 : decode cX10_looks 266 = .ok (.iaload, 1) := dw_46 wX10_looks_c rfl
theorem dX10_looks_267 : decode cX10_looks 267 = .ok (.bipush 12, 2) := dw_16 wX10_looks_c 12 rfl rfl rfl
theorem dX10_looks_269 : decode cX10_looks 269 = .ok (.invokevirtual 333, 3) := dw_182 wX10_looks_c 1 77 rfl rfl
theorem dX10_looks_272 : decode cX10_looks 272 = .ok (.goto 4, 3) := dw_167 wX10_looks_c 0 4 rfl rfl rfl
theorem dX10_looks_275 : decode cX10_looks 275 = .ok (.iconst 0, 1) := dw_3 wX10_looks_c rfl
theorem dX10_looks_276 : decode cX10_looks 276 = .ok (.iadd, 1) := dw_96 wX10_looks_c rfl
theorem dX10_looks_277 : decode cX10_looks 277 = .ok (.istore 5, 2) := dw_54 wX10_looks_c 5 rfl
theorem dX10_looks_279 : decode cX10_looks 279 = .ok (.aload_n 0, 1) := dw_42 wX10_looks_c rfl
theorem dX10_looks_280 : decode cX10_looks 280 = .ok (.getfield 120, 3) := dw_180 wX10_looks_c 0 120 rfl rfl
theorem dX10_looks_283 : decode cX10_looks 283 = .ok (.iload_n 1, 1) := dw_27 wX10_looks_c rfl
theorem dX10_looks_284 : decode cX10_looks 284 = .ok (.iaload, 1) := dw_46 wX10_looks_c rfl
theorem dX10_looks_285 : decode cX10_looks 285 = .ok (.iconst (-1), 1) := dw_2 wX10_looks_c rfl
theorem dX10_looks_286 : decode cX10_looks 286 = .ok (.if_icmp .eq 20, 3) := dw_159 wX10_looks_c 0 20 rfl rfl rfl
theorem dX10_looks_289 : decode cX10_looks 289 = .ok (.aload_n 0, 1) := dw_42 wX10_looks_c rfl
theorem dX10_looks_290 : decode cX10_looks 290 = .ok (.getfield 120, 3) := dw_180 wX10_looks_c 0 120 rfl rfl
theorem dX10_looks_293 : decode cX10_looks 293 = .ok (.iload_n 1, 1) := dw_27 wX10_looks_c rfl
theorem dX10_looks_294 : decode cX10_looks 294 = .ok (.iaload, 1) := dw_46 wX10_looks_c rfl
theorem dX10_looks_295 : decode cX10_looks 295 = .ok (.iload_n 2, 1) := dw_28 wX10_looks_c rfl
theorem dX10_looks_296 : decode cX10_looks 296 = .ok (.if_icmp .gt 10, 3) := dw_163 wX10_looks_c 0 10 rfl rfl rfl
theorem dX10_looks_299 : decode cX10_looks 299 = .ok (.aload_n 0, 1) := dw_42 wX10_looks_c rfl
theorem dX10_looks_300 : decode cX10_looks 300 = .ok (.bipush 8, 2) := dw_16 wX10_looks_c 8 rfl rfl rfl
theorem dX10_looks_302 : decode cX10_looks 302 = .ok (.putfield 410, 3) := dw_181 wX10_looks_c 1 154 rfl rfl
theorem dX10_looks_305 : decode cX10_looks 305 = .ok (.return_, 1) := dw_177 wX10_looks_c rfl
theorem dX10_looks_306 : decode cX10_looks 306 = .ok (.aload_n 0, 1) := dw_42 wX10_looks_c rfl
theorem dX10_looks_307 : decode cX10_looks 307 = .ok (.iload 5, 2) := dw_21 wX10_looks_c 5 rfl
theorem dX10_looks_309 : decode cX10_looks 309 = .ok (.aload_n 0, 1) := dw_42 wX10_looks_c rfl
theorem dX10_looks_310 : decode cX10_looks 310 = .ok (.getfield 398, 3) := dw_180 wX10_looks_c 1 142 rfl rfl
theorem dX10_looks_313 : decode cX10_looks 313 = .ok (.if_icmp .le 13, 3) := dw_164 wX10_looks_c 0 13 rfl rfl rfl
theorem dX10_looks_316 : decode cX10_looks 316 = .ok (.iload 5, 2) := dw_21 wX10_looks_c 5 rfl
theorem dX10_looks_318 : decode cX10_looks 318 = .ok (.aload_n 0, 1) := dw_42 wX10_looks_c rfl
theorem dX10_looks_319 : decode cX10_looks 319 = .ok (.getfield 398, 3) := dw_180 wX10_looks_c 1 142 rfl rfl
theorem dX10_looks_322 : decode cX10_looks 322 = .ok (.isub, 1) := dw_100 wX10_looks_c rfl
theorem dX10_looks_323 : decode cX10_looks 323 = .ok (.goto 4, 3) := dw_167 wX10_looks_c 0 4 rfl rfl rfl
theorem dX10_looks_326 : decode cX10_looks 326 = .ok (.iconst 0, 1) := dw_3 wX10_looks_c rfl
theorem dX10_looks_327 : decode cX10_looks 327 = .ok (.putfield 401, 3) := dw_181 wX10_looks_c 1 145 rfl rfl
theorem dX10_looks_330 : decode cX10_looks 330 = .ok (.aload_n 0, 1) := dw_42 wX10_looks_c rfl
theorem dX10_looks_331 : decode cX10_looks 331 = .ok (.aload_n 0, 1) := dw_42 wX10_looks_c rfl
theorem dX10_looks_332 : decode cX10_looks 332 = .ok (.getfield 398, 3) := dw_180 wX10_looks_c 1 142 rfl rfl
theorem dX10_looks_335 : decode cX10_looks 335 = .ok (.iload 5, 2) := dw_21 wX10_looks_c 5 rfl
theorem dX10_looks_337 : decode cX10_looks 337 = .ok (.if_icmp .le 13, 3) := dw_164 wX10_looks_c 0 13 rfl rfl rfl
theorem dX10_looks_340 : decode cX10_looks 340 = .ok (.aload_n 0, 1) := dw_42 wX10_looks_c rfl
theorem dX10_looks_341 : decode cX10_looks 341 = .ok (.getfield 398, 3) := dw_180 wX10_looks_c 1 142 rfl rfl
theorem dX10_looks_344 : decode cX10_looks 344 = .ok (.iload 5, 2) := dw_21 wX10_looks_c 5 rfl
theorem dX10_looks_346 : decode cX10_looks 346 = .ok (.isub, 1) := dw_100 wX10_looks_c rfl
theorem dX10_looks_347 : decode cX10_looks 347 = .ok (.goto 4, 3) := dw_167 wX10_looks_c 0 4 rfl rfl rfl
theorem dX10_looks_350 : decode cX10_looks 350 = .ok (.iconst 0, 1) := dw_3 wX10_looks_c rfl
theorem dX10_looks_351 : decode cX10_looks 351 = .ok (.putfield 404, 3) := dw_181 wX10_looks_c 1 148 rfl rfl
theorem dX10_looks_354 : decode cX10_looks 354 = .ok (.iload_n 2, 1) := dw_28 wX10_looks_c rfl
theorem dX10_looks_355 : decode cX10_looks 355 = .ok (.aload_n 0, 1) := dw_42 wX10_looks_c rfl
theorem dX10_looks_356 : decode cX10_looks 356 = .ok (.getfield 114, 3) := dw_180 wX10_looks_c 0 114 rfl rfl
theorem dX10_looks_359 : decode cX10_looks 359 = .ok (.iload_n 1, 1) := dw_27 wX10_looks_c rfl
theorem dX10_looks_360 : decode cX10_looks 360 = .ok (.iaload, 1) := dw_46 wX10_looks_c rfl
theorem dX10_looks_361 : decode cX10_looks 361 = .ok (.isub, 1) := dw_100 wX10_looks_c rfl
theorem dX10_looks_362 : decode cX10_looks 362 = .ok (.bipush 7, 2) := dw_16 wX10_looks_c 7 rfl rfl rfl
theorem dX10_looks_364 : decode cX10_looks 364 = .ok (.idiv, 1) := dw_108 wX10_looks_c rfl
theorem dX10_looks_365 : decode cX10_looks 365 = .ok (.istore 6, 2) := dw_54 wX10_looks_c 6 rfl
theorem dX10_looks_367 : decode cX10_looks 367 = .ok (.aload_n 0, 1) := dw_42 wX10_looks_c rfl
theorem dX10_looks_368 : decode cX10_looks 368 = .ok (.getfield 132, 3) := dw_180 wX10_looks_c 0 132 rfl rfl
theorem dX10_looks_371 : decode cX10_looks 371 = .ok (.iload_n 1, 1) := dw_27 wX10_looks_c rfl
theorem dX10_looks_372 : decode cX10_looks 372 = .ok (.iaload, 1) := dw_46 wX10_looks_c rfl
theorem dX10_looks_373 : decode cX10_looks 373 = .ok (.iload 6, 2) := dw_21 wX10_looks_c 6 rfl
theorem dX10_looks_375 : decode cX10_looks 375 = .ok (.imul, 1) := dw_104 wX10_looks_c rfl
theorem dX10_looks_376 : decode cX10_looks 376 = .ok (.iload 5, 2) := dw_21 wX10_looks_c 5 rfl
theorem dX10_looks_378 : decode cX10_looks 378 = .ok (.if_icmp .ge 15, 3) := dw_162 wX10_looks_c 0 15 rfl rfl rfl
theorem dX10_looks_381 : decode cX10_looks 381 = .ok (.aload_n 0, 1) := dw_42 wX10_looks_c rfl
theorem dX10_looks_382 : decode cX10_looks 382 = .ok (.getfield 132, 3) := dw_180 wX10_looks_c 0 132 rfl rfl
theorem dX10_looks_385 : decode cX10_looks 385 = .ok (.iload_n 1, 1) := dw_27 wX10_looks_c rfl
theorem dX10_looks_386 : decode cX10_looks 386 = .ok (.iaload, 1) := dw_46 wX10_looks_c rfl
theorem dX10_looks_387 : decode cX10_looks 387 = .ok (.iload 6, 2) := dw_21 wX10_looks_c 6 rfl
theorem dX10_looks_389 : decode cX10_looks 389 = .ok (.imul, 1) := dw_104 wX10_looks_c rfl
theorem dX10_looks_390 : decode cX10_looks 390 = .ok (.goto 5, 3) := dw_167 wX10_looks_c 0 5 rfl rfl rfl
theorem dX10_looks_393 : decode cX10_looks 393 = .ok (.iload 5, 2) := dw_21 wX10_looks_c 5 rfl
theorem dX10_looks_395 : decode cX10_looks 395 = .ok (.istore 7, 2) := dw_54 wX10_looks_c 7 rfl
theorem dX10_looks_397 : decode cX10_looks 397 = .ok (.aload_n 0, 1) := dw_42 wX10_looks_c rfl
theorem dX10_looks_398 : decode cX10_looks 398 = .ok (.iload 7, 2) := dw_21 wX10_looks_c 7 rfl
theorem dX10_looks_400 : decode cX10_looks 400 = .ok (.aload_n 0, 1) := dw_42 wX10_looks_c rfl
theorem dX10_looks_401 : decode cX10_looks 401 = .ok (.getfield 398, 3) := dw_180 wX10_looks_c 1 142 rfl rfl
theorem dX10_looks_404 : decode cX10_looks 404 = .ok (.if_icmp .le 29, 3) := dw_164 wX10_looks_c 0 29 rfl rfl rfl
theorem dX10_looks_407 : decode cX10_looks 407 = .ok (.iload 7, 2) := dw_21 wX10_looks_c 7 rfl
theorem dX10_looks_409 : decode cX10_looks 409 = .ok (.aload_n 0, 1) := dw_42 wX10_looks_c rfl
theorem dX10_looks_410 : decode cX10_looks 410 = .ok (.getfield 398, 3) := dw_180 wX10_looks_c 1 142 rfl rfl
theorem dX10_looks_413 : decode cX10_looks 413 = .ok (.isub, 1) := dw_100 wX10_looks_c rfl
theorem dX10_looks_414 : decode cX10_looks 414 = .ok (.aload_n 0, 1) := dw_42 wX10_looks_c rfl
theorem dX10_looks_415 : decode cX10_looks 415 = .ok (.getfield 132, 3) := dw_180 wX10_looks_c 0 132 rfl rfl
theorem dX10_looks_418 : decode cX10_looks 418 = .ok (.iload_n 1, 1) := dw_27 wX10_looks_c rfl
theorem dX10_looks_419 : decode cX10_looks 419 = .ok (.iaload, 1) := dw_46 wX10_looks_c rfl
theorem dX10_looks_420 : decode cX10_looks 420 = .ok (.iadd, 1) := dw_96 wX10_looks_c rfl
theorem dX10_looks_421 : decode cX10_looks 421 = .ok (.iconst 1, 1) := dw_4 wX10_looks_c rfl
theorem dX10_looks_422 : decode cX10_looks 422 = .ok (.isub, 1) := dw_100 wX10_looks_c rfl
theorem dX10_looks_423 : decode cX10_looks 423 = .ok (.aload_n 0, 1) := dw_42 wX10_looks_c rfl
theorem dX10_looks_424 : decode cX10_looks 424 = .ok (.getfield 132, 3) := dw_180 wX10_looks_c 0 132 rfl rfl
theorem dX10_looks_427 : decode cX10_looks 427 = .ok (.iload_n 1, 1) := dw_27 wX10_looks_c rfl
theorem dX10_looks_428 : decode cX10_looks 428 = .ok (.iaload, 1) := dw_46 wX10_looks_c rfl
theorem dX10_looks_429 : decode cX10_looks 429 = .ok (.idiv, 1) := dw_108 wX10_looks_c rfl
theorem dX10_looks_430 : decode cX10_looks 430 = .ok (.goto 4, 3) := dw_167 wX10_looks_c 0 4 rfl rfl rfl
theorem dX10_looks_433 : decode cX10_looks 433 = .ok (.iconst 0, 1) := dw_3 wX10_looks_c rfl
theorem dX10_looks_434 : decode cX10_looks 434 = .ok (.putfield 407, 3) := dw_181 wX10_looks_c 1 151 rfl rfl
theorem dX10_looks_437 : decode cX10_looks 437 = .ok (.aload_n 0, 1) := dw_42 wX10_looks_c rfl
theorem dX10_looks_438 : decode cX10_looks 438 = .ok (.aload_n 0, 1) := dw_42 wX10_looks_c rfl
theorem dX10_looks_439 : decode cX10_looks 439 = .ok (.getfield 102, 3) := dw_180 wX10_looks_c 0 102 rfl rfl
theorem dX10_looks_442 : decode cX10_looks 442 = .ok (.iload_n 1, 1) := dw_27 wX10_looks_c rfl
theorem dX10_looks_443 : decode cX10_looks 443 = .ok (.iaload, 1) := dw_46 wX10_looks_c rfl
theorem dX10_looks_444 : decode cX10_looks 444 = .ok (.iconst 4, 1) := dw_7 wX10_looks_c rfl
theorem dX10_looks_445 : decode cX10_looks 445 = .ok (.invokevirtual 333, 3) := dw_182 wX10_looks_c 1 77 rfl rfl
theorem dX10_looks_448 : decode cX10_looks 448 = .ok (.istore 8, 2) := dw_54 wX10_looks_c 8 rfl
theorem dX10_looks_450 : decode cX10_looks 450 = .ok (.aload_n 0, 1) := dw_42 wX10_looks_c rfl
theorem dX10_looks_451 : decode cX10_looks 451 = .ok (.aload_n 0, 1) := dw_42 wX10_looks_c rfl
theorem dX10_looks_452 : decode cX10_looks 452 = .ok (.getfield 401, 3) := dw_180 wX10_looks_c 1 145 rfl rfl
theorem dX10_looks_455 : decode cX10_looks 455 = .ok (.ifCond .ne 8, 3) := dw_154 wX10_looks_c 0 8 rfl rfl rfl
theorem dX10_looks_458 : decode cX10_looks 458 = .ok (.bipush 7, 2) := dw_16 wX10_looks_c 7 rfl rfl rfl
theorem dX10_looks_460 : decode cX10_looks 460 = .ok (.goto 43, 3) := dw_167 wX10_looks_c 0 43 rfl rfl rfl
theorem dX10_looks_463 : decode cX10_looks 463 = .ok (.aload_n 0, 1) := dw_42 wX10_looks_c rfl
theorem dX10_looks_464 : decode cX10_looks 464 = .ok (.getfield 407, 3) := dw_180 wX10_looks_c 1 151 rfl rfl
theorem dX10_looks_467 : decode cX10_looks 467 = .ok (.iload 8, 2) := dw_21 wX10_looks_c 8 rfl
theorem dX10_looks_469 : decode cX10_looks 469 = .ok (.aload_n 0, 1) := dw_42 wX10_looks_c rfl
theorem dX10_looks_470 : decode cX10_looks 470 = .ok (.aload_n 0, 1) := dw_42 wX10_looks_c rfl
theorem dX10_looks_471 : decode cX10_looks 471 = .ok (.getfield 102, 3) := dw_180 wX10_looks_c 0 102 rfl rfl
theorem dX10_looks_474 : decode cX10_looks 474 = .ok (.iload_n 1, 1) := dw_27 wX10_looks_c rfl
theorem dX10_looks_475 : decode cX10_looks 475 = .ok (.iaload, 1) := dw_46 wX10_looks_c rfl
theorem dX10_looks_476 : decode cX10_looks 476 = .ok (.iconst 5, 1) := dw_8 wX10_looks_c rfl
theorem dX10_looks_477 : decode cX10_looks 477 = .ok (.invokevirtual 333, 3) := dw_182 wX10_looks_c 1 77 rfl rfl
theorem dX10_looks_480 : decode cX10_looks 480 = .ok (.iadd, 1) := dw_96 wX10_looks_c rfl
theorem dX10_looks_481 : decode cX10_looks 481 = .ok (.if_icmp .lt 8, 3) := dw_161 wX10_looks_c 0 8 rfl rfl rfl
theorem dX10_looks_484 : decode cX10_looks 484 = .ok (.bipush 6, 2) := dw_16 wX10_looks_c 6 rfl rfl rfl
theorem dX10_looks_486 : decode cX10_looks 486 = .ok (.goto 17, 3) := dw_167 wX10_looks_c 0 17 rfl rfl rfl
theorem dX10_looks_489 : decode cX10_looks 489 = .ok (.aload_n 0, 1) := dw_42 wX10_looks_c rfl
theorem dX10_looks_490 : decode cX10_looks 490 = .ok (.getfield 407, 3) := dw_180 wX10_looks_c 1 151 rfl rfl
theorem dX10_looks_493 : decode cX10_looks 493 = .ok (.iload 8, 2) := dw_21 wX10_looks_c 8 rfl
theorem dX10_looks_495 : decode cX10_looks 495 = .ok (.if_icmp .lt 7, 3) := dw_161 wX10_looks_c 0 7 rfl rfl rfl
theorem dX10_looks_498 : decode cX10_looks 498 = .ok (.iconst 5, 1) := dw_8 wX10_looks_c rfl
theorem dX10_looks_499 : decode cX10_looks 499 = .ok (.goto 4, 3) := dw_167 wX10_looks_c 0 4 rfl rfl rfl
theorem dX10_looks_502 : decode cX10_looks 502 = .ok (.iconst 4, 1) := dw_7 wX10_looks_c rfl
theorem dX10_looks_503 : decode cX10_looks 503 = .ok (.putfield 410, 3) := dw_181 wX10_looks_c 1 154 rfl rfl
theorem dX10_looks_506 : decode cX10_looks 506 = .ok (.return_, 1) := dw_177 wX10_looks_c rfl