section
def wNX10_looks : Nat := 658975538676096360932376216859070603905081368869704142679831820608738499930383355394201314441039986317324112260093928334410189550751069975594733845902966024038670812067925881948902715821353461358513519174444301972161353927985774678077317759768030378845063917272930302835887875870170867865297834839497112844864930613757609076109939609842793902910771693197113023592917900796867204059598555882208875503658370306145518939050338533721696157184171104135717792672508412511298530017488165919269804063726519386331217608734425936435608013318315941697264388858811648294128248091187167007990149134518735612543180805154394165993606828707497603741532180146361471412234389293816930719522608987750717224632994414839625409854213592451085900296131717840219739785726711900421802490345140577778001314988478968902901193751711654884231154157019310913853795166340953575402369195224497043415050516741542534539545295487694137421585540691133040714576048636442113647046025618070219383838533484605607792159626394648672710781754664413960103787720114734750823670717590767162379668198434378452174561671787973040449134267206389060611303727338152912189033385051891675553412375499014955772784790612259637595473261374822478109569935416762487793059695493930
theorem wX10_looks_c : hz_cd cX10_looks wNX10_looks 507 := ⟨by decide +kernel, by decide +kernel⟩
theorem dX10_looks_0 : decode cX10_looks 0 = .ok (.aload_n 0, 1) := dw_42 wX10_looks_c rfl
theorem dX10_looks_1 : decode cX10_looks 1 = .ok (.iconst 0, 1) := dw_3 wX10_looks_c rfl
theorem dX10_looks_2 : decode cX10_looks 2 = .ok (.putfield 398, 3) := dw_181 wX10_looks_c 1 142 rfl rfl
theorem dX10_looks_5 : decode cX10_looks 5 = .ok (.aload_n 0, 1) := dw_42 wX10_looks_c rfl
theorem dX10_looks_6 : decode cX10_looks 6 = .ok (.iconst 0, 1) := dw_3 wX10_looks_c rfl
theorem dX10_looks_7 : decode cX10_looks 7 = .ok (.putfield 401, 3) := dw_181 wX10_looks_c 1 145 rfl rfl
theorem dX10_looks_10 : decode cX10_looks 10 = .ok (.aload_n 0, 1) := dw_42 wX10_looks_c rfl
theorem dX10_looks_11 : decode cX10_looks 11 = .ok (.iconst 0, 1) := dw_3 wX10_looks_c rfl
theorem dX10_looks_12 : decode cX10_looks 12 = .ok (.putfield 404, 3) := dw_181 wX10_looks_c 1 148 rfl rfl
theorem dX10_looks_15 : decode cX10_looks 15 = .ok (.aload_n 0, 1) := dw_42 wX10_looks_c rfl
theorem dX10_looks_16 : decode cX10_looks 16 = .ok (.iconst 0, 1) := dw_3 wX10_looks_c rfl
theorem dX10_looks_17 : decode cX10_looks 17 = .ok (.putfield 407, 3) := dw_181 wX10_looks_c 1 151 rfl rfl
theorem dX10_looks_20 : decode cX10_looks 20 = .ok (.aload_n 0, 1) := dw_42 wX10_looks_c rfl
theorem dX10_looks_21 : decode cX10_looks 21 = .ok (.aload_n 0, 1) := dw_42 wX10_looks_c rfl
theorem dX10_looks_22 : decode cX10_looks 22 = .ok (.getfield 108, 3) := dw_180 wX10_looks_c 0 108 rfl rfl
theorem dX10_looks_25 : decode cX10_looks 25 = .ok (.iload_n 1, 1) := dw_27 wX10_looks_c rfl
theorem dX10_looks_26 : decode cX10_looks 26 = .ok (.iaload, 1) := dw_46 wX10_looks_c rfl
theorem dX10_looks_27 : decode cX10_looks 27 = .ok (.iconst (-1), 1) := dw_2 wX10_looks_c rfl
theorem dX10_looks_28 : decode cX10_looks 28 = .ok (.if_icmp .eq 17, 3) := dw_159 wX10_looks_c 0 17 rfl rfl rfl
theorem dX10_looks_31 : decode cX10_looks 31 = .ok (.aload_n 0, 1) := dw_42 wX10_looks_c rfl
theorem dX10_looks_32 : decode cX10_looks 32 = .ok (.getfield 108, 3) := dw_180 wX10_looks_c 0 108 rfl rfl
theorem dX10_looks_35 : decode cX10_looks 35 = .ok (.iload_n 1, 1) := dw_27 wX10_looks_c rfl
theorem dX10_looks_36 : decode cX10_looks 36 = .ok (.iaload, 1) := dw_46 wX10_looks_c rfl
theorem dX10_looks_37 : decode cX10_looks 37 = .ok (.iload_n 2, 1) := dw_28 wX10_looks_c rfl
theorem dX10_looks_38 : decode cX10_looks 38 = .ok (.if_icmp .gt 7, 3) := dw_163 wX10_looks_c 0 7 rfl rfl rfl
theorem dX10_looks_41 : decode cX10_looks 41 = .ok (.iconst 1, 1) := dw_4 wX10_looks_c rfl
theorem dX10_looks_42 : decode cX10_looks 42 = .ok (.goto 4, 3) := dw_167 wX10_looks_c 0 4 rfl rfl rfl
theorem dX10_looks_45 : decode cX10_looks 45 = .ok (.iconst 0, 1) := dw_3 wX10_looks_c rfl
theorem dX10_looks_46 : decode cX10_looks 46 = .ok (.putfield 410, 3) := dw_181 wX10_looks_c 1 154 rfl rfl
theorem dX10_looks_49 : decode cX10_looks 49 = .ok (.aload_n 0, 1) := dw_42 wX10_looks_c rfl
theorem dX10_looks_50 : decode cX10_looks 50 = .ok (.getfield 111, 3) := dw_180 wX10_looks_c 0 111 rfl rfl
theorem dX10_looks_53 : decode cX10_looks 53 = .ok (.iload_n 1, 1) := dw_27 wX10_looks_c rfl
theorem dX10_looks_54 : decode cX10_looks 54 = .ok (.iaload, 1) := dw_46 wX10_looks_c rfl
theorem dX10_looks_55 : decode cX10_looks 55 = .ok (.iconst (-1), 1) := dw_2 wX10_looks_c rfl
theorem dX10_looks_56 : decode cX10_looks 56 = .ok (.if_icmp .eq 32, 3) := dw_159 wX10_looks_c 0 32 rfl rfl rfl
theorem dX10_looks_59 : decode cX10_looks 59 = .ok (.aload_n 0, 1) := dw_42 wX10_looks_c rfl
theorem dX10_looks_60 : decode cX10_looks 60 = .ok (.getfield 111, 3) := dw_180 wX10_looks_c 0 111 rfl rfl
theorem dX10_looks_63 : decode cX10_looks 63 = .ok (.iload_n 1, 1) := dw_27 wX10_looks_c rfl
theorem dX10_looks_64 : decode cX10_looks 64 = .ok (.iaload, 1) := dw_46 wX10_looks_c rfl
theorem dX10_looks_65 : decode cX10_looks 65 = .ok (.iload_n 2, 1) := dw_28 wX10_looks_c rfl
theorem dX10_looks_66 : decode cX10_looks 66 = .ok (.if_icmp .gt 22, 3) := dw_163 wX10_looks_c 0 22 rfl rfl rfl
theorem dX10_looks_69 : decode cX10_looks 69 = .ok (.aload_n 0, 1) := dw_42 wX10_looks_c rfl
theorem dX10_looks_70 : decode cX10_looks 70 = .ok (.aload_n 0, 1) := dw_42 wX10_looks_c rfl
theorem dX10_looks_71 : decode cX10_looks 71 = .ok (.getfield 123, 3) := dw_180 wX10_looks_c 0 123 rfl rfl
theorem dX10_looks_74 : decode cX10_looks 74 = .ok (.iload_n 1, 1) := dw_27 wX10_looks_c rfl
theorem dX10_looks_75 : decode cX10_looks 75 = .ok (.iaload, 1) := dw_46 wX10_looks_c rfl
theorem dX10_looks_76 : decode cX10_looks 76 = .ok (.iconst 5, 1) := dw_8 wX10_looks_c rfl
theorem dX10_looks_77 : decode cX10_looks 77 = .ok (.if_icmp .ne 7, 3) := dw_160 wX10_looks_c 0 7 rfl rfl rfl
theorem dX10_looks_80 : decode cX10_looks 80 = .ok (.iconst 3, 1) := dw_6 wX10_looks_c rfl
theorem dX10_looks_81 : decode cX10_looks 81 = .ok (.goto 4, 3) := dw_167 wX10_looks_c 0 4 rfl rfl rfl
theorem dX10_looks_84 : decode cX10_looks 84 = .ok (.iconst 2, 1) := dw_5 wX10_looks_c rfl
theorem dX10_looks_85 : decode cX10_looks 85 = .ok (.putfield 410, 3) := dw_181 wX10_looks_c 1 154 rfl rfl
theorem dX10_looks_88 : decode cX10_looks 88 = .ok (.aload_n 0, 1) := dw_42 wX10_looks_c rfl
theorem dX10_looks_89 : decode cX10_looks 89 = .ok (.getfield 114, 3) := dw_180 wX10_looks_c 0 114 rfl rfl
theorem dX10_looks_92 : decode cX10_looks 92 = .ok (.iload_n 1, 1) := dw_27 wX10_looks_c rfl
theorem dX10_looks_93 : decode cX10_looks 93 = .ok (.iaload, 1) := dw_46 wX10_looks_c rfl
theorem dX10_looks_94 : decode cX10_looks 94 = .ok (.iconst (-1), 1) := dw_2 wX10_looks_c rfl
theorem dX10_looks_95 : decode cX10_looks 95 = .ok (.if_icmp .eq 13, 3) := dw_159 wX10_looks_c 0 13 rfl rfl rfl
theorem dX10_looks_98 : decode cX10_looks 98 = .ok (.aload_n 0, 1) := dw_42 wX10_looks_c rfl
theorem dX10_looks_99 : decode cX10_looks 99 = .ok (.getfield 114, 3) := dw_180 wX10_looks_c 0 114 rfl rfl
theorem dX10_looks_102 : decode cX10_looks 102 = .ok (.iload_n 1, 1) := dw_27 wX10_looks_c rfl
theorem dX10_looks_103 : decode cX10_looks 103 = .ok (.iaload, 1) := dw_46 wX10_looks_c rfl
theorem dX10_looks_104 : decode cX10_looks 104 = .ok (.iload_n 2, 1) := dw_28 wX10_looks_c rfl
theorem dX10_looks_105 : decode cX10_looks 105 = .ok (.if_icmp .le 4, 3) := dw_164 wX10_looks_c 0 4 rfl rfl rfl
theorem dX10_looks_108 : decode cX10_looks 108 = .ok (.return_, 1) := dw_177 wX10_looks_c rfl
theorem dX10_looks_109 : decode cX10_looks 109 = .ok (.aload_n 0, 1) := dw_42 wX10_looks_c rfl
theorem dX10_looks_110 : decode cX10_looks 110 = .ok (.getfield 117, 3) := dw_180 wX10_looks_c 0 117 rfl rfl
theorem dX10_looks_113 : decode cX10_looks 113 = .ok (.iload_n 1, 1) := dw_27 wX10_looks_c rfl
theorem dX10_looks_114 : decode cX10_looks 114 = .ok (.iaload, 1) := dw_46 wX10_looks_c rfl
theorem dX10_looks_115 : decode cX10_looks 115 = .ok (.iconst (-1), 1) := dw_2 wX10_looks_c rfl
theorem dX10_looks_116 : decode cX10_looks 116 = .ok (.if_icmp .eq 17, 3) := dw_159 wX10_looks_c 0 17 rfl rfl rfl
theorem dX10_looks_119 : decode cX10_looks 119 = .ok (.aload_n 0, 1) := dw_42 wX10_looks_c rfl
theorem dX10_looks_120 : decode cX10_looks 120 = .ok (.getfield 117, 3) := dw_180 wX10_looks_c 0 117 rfl rfl
theorem dX10_looks_123 : decode cX10_looks 123 = .ok (.iload_n 1, 1) := dw_27 wX10_looks_c rfl
theorem dX10_looks_124 : decode cX10_looks 124 = .ok (.iaload, 1) := dw_46 wX10_looks_c rfl
theorem dX10_looks_125 : decode cX10_looks 125 = .ok (.iload_n 2, 1) := dw_28 wX10_looks_c rfl
theorem dX10_looks_126 : decode cX10_looks 126 = .ok (.if_icmp .gt 7, 3) := dw_163 wX10_looks_c 0 7 rfl rfl rfl
theorem dX10_looks_129 : decode cX10_looks 129 = .ok (.iconst 1, 1) := dw_4 wX10_looks_c rfl
theorem dX10_looks_130 : decode cX10_looks 130 = .ok (.goto 4, 3) := dw_167 wX10_looks_c 0 4 rfl rfl rfl
theorem dX10_looks_133 : decode cX10_looks 133 = .ok (.iconst 0, 1) := dw_3 wX10_looks_c rfl
theorem dX10_looks_134 : decode cX10_looks 134 = .ok (.istore 4, 2) := dw_54 wX10_looks_c 4 rfl
theorem dX10_looks_136 : decode cX10_looks 136 = .ok (.iconst 0, 1) := dw_3 wX10_looks_c rfl
theorem dX10_looks_137 : decode cX10_looks 137 = .ok (.istore 5, 2) := dw_54 wX10_looks_c 5 rfl
theorem dX10_looks_139 : decode cX10_looks 139 = .ok (.iload 5, 2) := dw_21 wX10_looks_c 5 rfl
theorem dX10_looks_141 : decode cX10_looks 141 = .ok (.aload_n 0, 1) := dw_42 wX10_looks_c rfl
theorem dX10_looks_142 : decode cX10_looks 142 = .ok (.getfield 413, 3) := dw_180 wX10_looks_c 1 157 rfl rfl
theorem dX10_looks_145 : decode cX10_looks 145 = .ok (.if_icmp .ge 80, 3) := dw_162 wX10_looks_c 0 80 rfl rfl rfl
theorem dX10_looks_148 : decode cX10_looks 148 = .ok (.aload_n 0, 1) := dw_42 wX10_looks_c rfl
theorem dX10_looks_149 : decode cX10_looks 149 = .ok (.getfield 144, 3) := dw_180 wX10_looks_c 0 144 rfl rfl
theorem dX10_looks_152 : decode cX10_looks 152 = .ok (.iload 5, 2) := dw_21 wX10_looks_c 5 rfl
theorem dX10_looks_154 : decode cX10_looks 154 = .ok (.iaload, 1) := dw_46 wX10_looks_c rfl
theorem dX10_looks_155 : decode cX10_looks 155 = .ok (.iload_n 1, 1) := dw_27 wX10_looks_c rfl
theorem dX10_looks_156 : decode cX10_looks 156 = .ok (.if_icmp .ne 63, 3) := dw_160 wX10_looks_c 0 63 rfl rfl rfl
theorem dX10_looks_159 : decode cX10_looks 159 = .ok (.aload_n 0, 1) := dw_42 wX10_looks_c rfl
theorem dX10_looks_160 : decode cX10_looks 160 = .ok (.getfield 147, 3) := dw_180 wX10_looks_c 0 147 rfl rfl
theorem dX10_looks_163 : decode cX10_looks 163 = .ok (.iload 5, 2) := dw_21 wX10_looks_c 5 rfl
theorem dX10_looks_165 : decode cX10_looks 165 = .ok (.iaload, 1) := dw_46 wX10_looks_c rfl
theorem dX10_looks_166 : decode cX10_looks 166 = .ok (.iload_n 2, 1) := dw_28 wX10_looks_c rfl
theorem dX10_looks_167 : decode cX10_looks 167 = .ok (.if_icmp .gt 52, 3) := dw_163 wX10_looks_c 0 52 rfl rfl rfl
theorem dX10_looks_170 : decode cX10_looks 170 = .ok (.aload_n 0, 1) := dw_42 wX10_looks_c rfl
theorem dX10_looks_171 : decode cX10_looks 171 = .ok (.getfield 153, 3) := dw_180 wX10_looks_c 0 153 rfl rfl
theorem dX10_looks_174 : decode cX10_looks 174 = .ok (.iload 5, 2) := dw_21 wX10_looks_c 5 rfl
theorem dX10_looks_176 : decode cX10_looks 176 = .ok (.iaload, 1) := dw_46 wX10_looks_c rfl
theorem dX10_looks_177 : decode cX10_looks 177 = .ok (.iload_n 3, 1) := dw_29 wX10_looks_c rfl
theorem dX10_looks_178 : decode cX10_looks 178 = .ok (.if_icmp .gt 41, 3) := dw_163 wX10_looks_c 0 41 rfl rfl rfl
theorem dX10_looks_181 : decode cX10_looks 181 = .ok (.aload_n 0, 1) := dw_42 wX10_looks_c rfl
theorem dX10_looks_182 : decode cX10_looks 182 = .ok (.getfield 156, 3) := dw_180 wX10_looks_c 0 156 rfl rfl
theorem dX10_looks_185 : decode cX10_looks 185 = .ok (.iload 5, 2) := dw_21 wX10_looks_c 5 rfl
theorem dX10_looks_187 : decode cX10_looks 187 = .ok (.iaload, 1) := dw_46 wX10_looks_c rfl
theorem dX10_looks_188 : decode cX10_looks 188 = .ok (.iconst (-1), 1) := dw_2 wX10_looks_c rfl
theorem dX10_looks_189 : decode cX10_looks 189 = .ok (.if_icmp .eq 14, 3) := dw_159 wX10_looks_c 0 14 rfl rfl rfl
theorem dX10_looks_192 : decode cX10_looks 192 = .ok (.aload_n 0, 1) := dw_42 wX10_looks_c rfl
theorem dX10_looks_193 : decode cX10_looks 193 = .ok (.getfield 156, 3) := dw_180 wX10_looks_c 0 156 rfl rfl
theorem dX10_looks_196 : decode cX10_looks 196 = .ok (.iload 5, 2) := dw_21 wX10_looks_c 5 rfl
theorem dX10_looks_198 : decode cX10_looks 198 = .ok (.iaload, 1) := dw_46 wX10_looks_c rfl
theorem dX10_looks_199 : decode cX10_looks 199 = .ok (.iload_n 3, 1) := dw_29 wX10_looks_c rfl
theorem dX10_looks_200 : decode cX10_looks 200 = .ok (.if_icmp .le 19, 3) := dw_164 wX10_looks_c 0 19 rfl rfl rfl
theorem dX10_looks_203 : decode cX10_looks 203 = .ok (.aload_n 0, 1) := dw_42 wX10_looks_c rfl
theorem dX10_looks_204 : decode cX10_looks 204 = .ok (.dup, 1) := dw_89 wX10_looks_c rfl
theorem dX10_looks_205 : decode cX10_looks 205 = .ok (.getfield 398, 3) := dw_180 wX10_looks_c 1 142 rfl rfl
theorem dX10_looks_208 : decode cX10_looks 208 = .ok (.aload_n 0, 1) := dw_42 wX10_looks_c rfl
theorem dX10_looks_209 : decode cX10_looks 209 = .ok (.getfield 150, 3) := dw_180 wX10_looks_c 0 150 rfl rfl
theorem dX10_looks_212 : decode cX10_looks 212 = .ok (.iload 5, 2) := dw_21 wX10_looks_c 5 rfl
theorem dX10_looks_214 : decode cX10_looks 214 = .ok (.iaload, 1) := dw_46 wX10_looks_c rfl
theorem dX10_looks_215 : decode cX10_looks 215 = .ok (.iadd, 1) := dw_96 wX10_looks_c rfl
theorem dX10_looks_216 : decode cX10_looks 216 = .ok (.putfield 398, 3) := dw_181 wX10_looks_c 1 142 rfl rfl
theorem dX10_looks_219 : decode cX10_looks 219 = .ok (.iinc 5 1, 3) := dw_132 wX10_looks_c 5 1 rfl rfl rfl
theorem dX10_looks_222 : decode cX10_looks 222 = .ok (.goto (-83), 3) := dn_167 wX10_looks_c 255 173 rfl (by decide)
theorem dX10_looks_225 : decode cX10_looks 225 = .ok (.aload_n 0, 1) := dw_42 wX10_looks_c rfl
theorem dX10_looks_226 : decode cX10_looks 226 = .ok (.dup, 1) := dw_89 wX10_looks_c rfl
theorem dX10_looks_227 : decode cX10_looks 227 = .ok (.getfield 398, 3) := dw_180 wX10_looks_c 1 142 rfl rfl
theorem dX10_looks_230 : decode cX10_looks 230 = .ok (.iload 4, 2) := dw_21 wX10_looks_c 4 rfl
theorem dX10_looks_232 : decode cX10_looks 232 = .ok (.ifCond .eq 12, 3) := dw_153 wX10_looks_c 0 12 rfl rfl rfl
theorem dX10_looks_235 : decode cX10_looks 235 = .ok (.aload_n 0, 1) := dw_42 wX10_looks_c rfl
theorem dX10_looks_236 : decode cX10_looks 236 = .ok (.getfield 138, 3) := dw_180 wX10_looks_c 0 138 rfl rfl
theorem dX10_looks_239 : decode cX10_looks 239 = .ok (.iload_n 1, 1) := dw_27 wX10_looks_c rfl
theorem dX10_looks_240 : decode cX10_looks 240 = .ok (.iaload, 1) := dw_46 wX10_looks_c rfl
theorem dX10_looks_241 : decode cX10_looks 241 = .ok (.goto 4, 3) := dw_167 wX10_looks_c 0 4 rfl rfl rfl
theorem dX10_looks_244 : decode cX10_looks 244 = .ok (.iconst 0, 1) := dw_3 wX10_looks_c rfl
theorem dX10_looks_245 : decode cX10_looks 245 = .ok (.iadd, 1) := dw_96 wX10_looks_c rfl
theorem dX10_looks_246 : decode cX10_looks 246 = .ok (.putfield 398, 3) := dw_181 wX10_looks_c 1 142 rfl rfl
theorem dX10_looks_249 : decode cX10_looks 249 = .ok (.aload_n 0, 1) := dw_42 wX10_looks_c rfl
theorem dX10_looks_250 : decode cX10_looks 250 = .ok (.getfield 135, 3) := dw_180 wX10_looks_c 0 135 rfl rfl
theorem dX10_looks_253 : decode cX10_looks 253 = .ok (.iload_n 1, 1) := dw_27 wX10_looks_c rfl
theorem dX10_looks_254 : decode cX10_looks 254 = .ok (.iaload, 1) := dw_46 wX10_looks_c rfl
theorem dX10_looks_255 : decode cX10_looks 255 = .ok (.iload 4, 2) := dw_21 wX10_looks_c 4 rfl
theorem dX10_looks_257 : decode cX10_looks 257 = .ok (.ifCond .eq 18, 3) := dw_153 wX10_looks_c 0 18 rfl rfl rfl
theorem dX10_looks_260 : decode cX10_looks 260 = .ok (.aload_n 0, 1) := dw_42 wX10_looks_c rfl
theorem dX10_looks_261 : decode cX10_looks 261 = .ok (.aload_n 0, 1) := dw_42 wX10_looks_c rfl
theorem dX10_looks_262 : decode cX10_looks 262 = .ok (.getfield 102, 3) := dw_180 wX10_looks_c 0 102 rfl rfl
theorem dX10_looks_265 : decode cX10_looks 265 = .ok (.iload_n 1, 1) := dw_27 wX10_looks_c rfl
theorem dX10_looks_266 : decode cX10_looks 266 = .ok (.iaload, 1) := dw_46 wX10_looks_c rfl
theorem dX10_looks_267 : decode cX10_looks 267 = .ok (.bipush 12, 2) := dw_16 wX10_looks_c 12 rfl rfl rfl
theorem dX10_looks_269 : decode cX10_looks 269 = .ok (.invokevirtual 333, 3) := dw_182 wX10_looks_c 1 77 rfl rfl
theorem dX10_looks_272 : decode cX10_looks 272 = .ok (.goto 4, 3) := dw_167 wX10_looks_c 0 4 rfl rfl rfl
theorem dX10_looks_275 : decode cX10_looks 275 = .ok (.iconst 0, 1) := dw_3 wX10_looks_c rfl
theorem dX10_looks_276 : decode cX10_looks 276 = .ok (.iadd, 1) := dw_96 wX10_looks_c rfl
theorem dX10_looks_277 : decode cX10_looks 277 = .ok (.istore 5, 2) := dw_54 wX10_looks_c 5 rfl
theorem dX10_looks_279 : decode cX10_looks 279 = .ok (.aload_n 0, 1) := dw_42 wX10_looks_c rfl
theorem dX10_looks_280 : decode cX10_looks 280 = .ok (.getfield 120, 3) := dw_180 wX10_looks_c 0 120 rfl rfl
theorem dX10_looks_283 : decode cX10_looks 283 = .ok (.iload_n 1, 1) := dw_27 wX10_looks_c rfl
theorem dX10_looks_284 : decode cX10_looks 284 = .ok (.iaload, 1) := dw_46 wX10_looks_c rfl
theorem dX10_looks_285 : decode cX10_looks 285 = .ok (.iconst (-1), 1) := dw_2 wX10_looks_c rfl
theorem dX10_looks_286 : decode cX10_looks 286 = .ok (.if_icmp .eq 20, 3) := dw_159 wX10_looks_c 0 20 rfl rfl rfl
theorem dX10_looks_289 : decode cX10_looks 289 = .ok (.aload_n 0, 1) := dw_42 wX10_looks_c rfl
theorem dX10_looks_290 : decode cX10_looks 290 = .ok (.getfield 120, 3) := dw_180 wX10_looks_c 0 120 rfl rfl
theorem dX10_looks_293 : decode cX10_looks 293 = .ok (.iload_n 1, 1) := dw_27 wX10_looks_c rfl
theorem dX10_looks_294 : decode cX10_looks 294 = .ok (.iaload, 1) := dw_46 wX10_looks_c rfl
theorem dX10_looks_295 : decode cX10_looks 295 = .ok (.iload_n 2, 1) := dw_28 wX10_looks_c rfl
theorem dX10_looks_296 : decode cX10_looks 296 = .ok (.if_icmp .gt 10, 3) := dw_163 wX10_looks_c 0 10 rfl rfl rfl
theorem dX10_looks_299 : decode cX10_looks 299 = .ok (.aload_n 0, 1) := dw_42 wX10_looks_c rfl
theorem dX10_looks_300 : decode cX10_looks 300 = .ok (.bipush 8, 2) := dw_16 wX10_looks_c 8 rfl rfl rfl
theorem dX10_looks_302 : decode cX10_looks 302 = .ok (.putfield 410, 3) := dw_181 wX10_looks_c 1 154 rfl rfl
theorem dX10_looks_305 : decode cX10_looks 305 = .ok (.return_, 1) := dw_177 wX10_looks_c rfl
theorem dX10_looks_306 : decode cX10_looks 306 = .ok (.aload_n 0, 1) := dw_42 wX10_looks_c rfl
theorem dX10_looks_307 : decode cX10_looks 307 = .ok (.iload 5, 2) := dw_21 wX10_looks_c 5 rfl
theorem dX10_looks_309 : decode cX10_looks 309 = .ok (.aload_n 0, 1) := dw_42 wX10_looks_c rfl
theorem dX10_looks_310 : decode cX10_looks 310 = .ok (.getfield 398, 3) := dw_180 wX10_looks_c 1 142 rfl rfl
theorem dX10_looks_313 : decode cX10_looks 313 = .ok (.if_icmp .le 13, 3) := dw_164 wX10_looks_c 0 13 rfl rfl rfl
theorem dX10_looks_316 : decode cX10_looks 316 = .ok (.iload 5, 2) := dw_21 wX10_looks_c 5 rfl
theorem dX10_looks_318 : decode cX10_looks 318 = .ok (.aload_n 0, 1) := dw_42 wX10_looks_c rfl
theorem dX10_looks_319 : decode cX10_looks 319 = .ok (.getfield 398, 3) := dw_180 wX10_looks_c 1 142 rfl rfl
theorem dX10_looks_322 : decode cX10_looks 322 = .ok (.isub, 1) := dw_100 wX10_looks_c rfl
theorem dX10_looks_323 : decode cX10_looks 323 = .ok (.goto 4, 3) := dw_167 wX10_looks_c 0 4 rfl rfl rfl
theorem dX10_looks_326 : decode cX10_looks 326 = .ok (.iconst 0, 1) := dw_3 wX10_looks_c rfl
theorem dX10_looks_327 : decode cX10_looks 327 = .ok (.putfield 401, 3) := dw_181 wX10_looks_c 1 145 rfl rfl
theorem dX10_looks_330 : decode cX10_looks 330 = .ok (.aload_n 0, 1) := dw_42 wX10_looks_c rfl
theorem dX10_looks_331 : decode cX10_looks 331 = .ok (.aload_n 0, 1) := dw_42 wX10_looks_c rfl
theorem dX10_looks_332 : decode cX10_looks 332 = .ok (.getfield 398, 3) := dw_180 wX10_looks_c 1 142 rfl rfl
theorem dX10_looks_335 : decode cX10_looks 335 = .ok (.iload 5, 2) := dw_21 wX10_looks_c 5 rfl
theorem dX10_looks_337 : decode cX10_looks 337 = .ok (.if_icmp .le 13, 3) := dw_164 wX10_looks_c 0 13 rfl rfl rfl
theorem dX10_looks_340 : decode cX10_looks 340 = .ok (.aload_n 0, 1) := dw_42 wX10_looks_c rfl
theorem dX10_looks_341 : decode cX10_looks 341 = .ok (.getfield 398, 3) := dw_180 wX10_looks_c 1 142 rfl rfl
theorem dX10_looks_344 : decode cX10_looks 344 = .ok (.iload 5, 2) := dw_21 wX10_looks_c 5 rfl
theorem dX10_looks_346 : decode cX10_looks 346 = .ok (.isub, 1) := dw_100 wX10_looks_c rfl
theorem dX10_looks_347 : decode cX10_looks 347 = .ok (.goto 4, 3) := dw_167 wX10_looks_c 0 4 rfl rfl rfl
theorem dX10_looks_350 : decode cX10_looks 350 = .ok (.iconst 0, 1) := dw_3 wX10_looks_c rfl
theorem dX10_looks_351 : decode cX10_looks 351 = .ok (.putfield 404, 3) := dw_181 wX10_looks_c 1 148 rfl rfl
theorem dX10_looks_354 : decode cX10_looks 354 = .ok (.iload_n 2, 1) := dw_28 wX10_looks_c rfl
theorem dX10_looks_355 : decode cX10_looks 355 = .ok (.aload_n 0, 1) := dw_42 wX10_looks_c rfl
theorem dX10_looks_356 : decode cX10_looks 356 = .ok (.getfield 114, 3) := dw_180 wX10_looks_c 0 114 rfl rfl
theorem dX10_looks_359 : decode cX10_looks 359 = .ok (.iload_n 1, 1) := dw_27 wX10_looks_c rfl
theorem dX10_looks_360 : decode cX10_looks 360 = .ok (.iaload, 1) := dw_46 wX10_looks_c rfl
theorem dX10_looks_361 : decode cX10_looks 361 = .ok (.isub, 1) := dw_100 wX10_looks_c rfl
theorem dX10_looks_362 : decode cX10_looks 362 = .ok (.bipush 7, 2) := dw_16 wX10_looks_c 7 rfl rfl rfl
theorem dX10_looks_364 : decode cX10_looks 364 = .ok (.idiv, 1) := dw_108 wX10_looks_c rfl
theorem dX10_looks_365 : decode cX10_looks 365 = .ok (.istore 6, 2) := dw_54 wX10_looks_c 6 rfl
theorem dX10_looks_367 : decode cX10_looks 367 = .ok (.aload_n 0, 1) := dw_42 wX10_looks_c rfl
theorem dX10_looks_368 : decode cX10_looks 368 = .ok (.getfield 132, 3) := dw_180 wX10_looks_c 0 132 rfl rfl
theorem dX10_looks_371 : decode cX10_looks 371 = .ok (.iload_n 1, 1) := dw_27 wX10_looks_c rfl
theorem dX10_looks_372 : decode cX10_looks 372 = .ok (.iaload, 1) := dw_46 wX10_looks_c rfl
theorem dX10_looks_373 : decode cX10_looks 373 = .ok (.iload 6, 2) := dw_21 wX10_looks_c 6 rfl
theorem dX10_looks_375 : decode cX10_looks 375 = .ok (.imul, 1) := dw_104 wX10_looks_c rfl
theorem dX10_looks_376 : decode cX10_looks 376 = .ok (.iload 5, 2) := dw_21 wX10_looks_c 5 rfl
theorem dX10_looks_378 : decode cX10_looks 378 = .ok (.if_icmp .ge 15, 3) := dw_162 wX10_looks_c 0 15 rfl rfl rfl
theorem dX10_looks_381 : decode cX10_looks 381 = .ok (.aload_n 0, 1) := dw_42 wX10_looks_c rfl
theorem dX10_looks_382 : decode cX10_looks 382 = .ok (.getfield 132, 3) := dw_180 wX10_looks_c 0 132 rfl rfl
theorem dX10_looks_385 : decode cX10_looks 385 = .ok (.iload_n 1, 1) := dw_27 wX10_looks_c rfl
theorem dX10_looks_386 : decode cX10_looks 386 = .ok (.iaload, 1) := dw_46 wX10_looks_c rfl
theorem dX10_looks_387 : decode cX10_looks 387 = .ok (.iload 6, 2) := dw_21 wX10_looks_c 6 rfl
theorem dX10_looks_389 : decode cX10_looks 389 = .ok (.imul, 1) := dw_104 wX10_looks_c rfl
theorem dX10_looks_390 : decode cX10_looks 390 = .ok (.goto 5, 3) := dw_167 wX10_looks_c 0 5 rfl rfl rfl
theorem dX10_looks_393 : decode cX10_looks 393 = .ok (.iload 5, 2) := dw_21 wX10_looks_c 5 rfl
theorem dX10_looks_395 : decode cX10_looks 395 = .ok (.istore 7, 2) := dw_54 wX10_looks_c 7 rfl
theorem dX10_looks_397 : decode cX10_looks 397 = .ok (.aload_n 0, 1) := dw_42 wX10_looks_c rfl
theorem dX10_looks_398 : decode cX10_looks 398 = .ok (.iload 7, 2) := dw_21 wX10_looks_c 7 rfl
theorem dX10_looks_400 : decode cX10_looks 400 = .ok (.aload_n 0, 1) := dw_42 wX10_looks_c rfl
theorem dX10_looks_401 : decode cX10_looks 401 = .ok (.getfield 398, 3) := dw_180 wX10_looks_c 1 142 rfl rfl
theorem dX10_looks_404 : decode cX10_looks 404 = .ok (.if_icmp .le 29, 3) := dw_164 wX10_looks_c 0 29 rfl rfl rfl
theorem dX10_looks_407 : decode cX10_looks 407 = .ok (.iload 7, 2) := dw_21 wX10_looks_c 7 rfl
theorem dX10_looks_409 : decode cX10_looks 409 = .ok (.aload_n 0, 1) := dw_42 wX10_looks_c rfl
theorem dX10_looks_410 : decode cX10_looks 410 = .ok (.getfield 398, 3) := dw_180 wX10_looks_c 1 142 rfl rfl
theorem dX10_looks_413 : decode cX10_looks 413 = .ok (.isub, 1) := dw_100 wX10_looks_c rfl
theorem dX10_looks_414 : decode cX10_looks 414 = .ok (.aload_n 0, 1) := dw_42 wX10_looks_c rfl
theorem dX10_looks_415 : decode cX10_looks 415 = .ok (.getfield 132, 3) := dw_180 wX10_looks_c 0 132 rfl rfl
theorem dX10_looks_418 : decode cX10_looks 418 = .ok (.iload_n 1, 1) := dw_27 wX10_looks_c rfl
theorem dX10_looks_419 : decode cX10_looks 419 = .ok (.iaload, 1) := dw_46 wX10_looks_c rfl
theorem dX10_looks_420 : decode cX10_looks 420 = .ok (.iadd, 1) := dw_96 wX10_looks_c rfl
theorem dX10_looks_421 : decode cX10_looks 421 = .ok (.iconst 1, 1) := dw_4 wX10_looks_c rfl
theorem dX10_looks_422 : decode cX10_looks 422 = .ok (.isub, 1) := dw_100 wX10_looks_c rfl
theorem dX10_looks_423 : decode cX10_looks 423 = .ok (.aload_n 0, 1) := dw_42 wX10_looks_c rfl
theorem dX10_looks_424 : decode cX10_looks 424 = .ok (.getfield 132, 3) := dw_180 wX10_looks_c 0 132 rfl rfl
theorem dX10_looks_427 : decode cX10_looks 427 = .ok (.iload_n 1, 1) := dw_27 wX10_looks_c rfl
theorem dX10_looks_428 : decode cX10_looks 428 = .ok (.iaload, 1) := dw_46 wX10_looks_c rfl
theorem dX10_looks_429 : decode cX10_looks 429 = .ok (.idiv, 1) := dw_108 wX10_looks_c rfl
theorem dX10_looks_430 : decode cX10_looks 430 = .ok (.goto 4, 3) := dw_167 wX10_looks_c 0 4 rfl rfl rfl
theorem dX10_looks_433 : decode cX10_looks 433 = .ok (.iconst 0, 1) := dw_3 wX10_looks_c rfl
theorem dX10_looks_434 : decode cX10_looks 434 = .ok (.putfield 407, 3) := dw_181 wX10_looks_c 1 151 rfl rfl
theorem dX10_looks_437 : decode cX10_looks 437 = .ok (.aload_n 0, 1) := dw_42 wX10_looks_c rfl
theorem dX10_looks_438 : decode cX10_looks 438 = .ok (.aload_n 0, 1) := dw_42 wX10_looks_c rfl
theorem dX10_looks_439 : decode cX10_looks 439 = .ok (.getfield 102, 3) := dw_180 wX10_looks_c 0 102 rfl rfl
theorem dX10_looks_442 : decode cX10_looks 442 = .ok (.iload_n 1, 1) := dw_27 wX10_looks_c rfl
theorem dX10_looks_443 : decode cX10_looks 443 = .ok (.iaload, 1) := dw_46 wX10_looks_c rfl
theorem dX10_looks_444 : decode cX10_looks 444 = .ok (.iconst 4, 1) := dw_7 wX10_looks_c rfl
theorem dX10_looks_445 : decode cX10_looks 445 = .ok (.invokevirtual 333, 3) := dw_182 wX10_looks_c 1 77 rfl rfl
theorem dX10_looks_448 : decode cX10_looks 448 = .ok (.istore 8, 2) := dw_54 wX10_looks_c 8 rfl
theorem dX10_looks_450 : decode cX10_looks 450 = .ok (.aload_n 0, 1) := dw_42 wX10_looks_c rfl
theorem dX10_looks_451 : decode cX10_looks 451 = .ok (.aload_n 0, 1) := dw_42 wX10_looks_c rfl
theorem dX10_looks_452 : decode cX10_looks 452 = .ok (.getfield 401, 3) := dw_180 wX10_looks_c 1 145 rfl rfl
theorem dX10_looks_455 : decode cX10_looks 455 = .ok (.ifCond .ne 8, 3) := dw_154 wX10_looks_c 0 8 rfl rfl rfl
theorem dX10_looks_458 : decode cX10_looks 458 = .ok (.bipush 7, 2) := dw_16 wX10_looks_c 7 rfl rfl rfl
theorem dX10_looks_460 : decode cX10_looks 460 = .ok (.goto 43, 3) := dw_167 wX10_looks_c 0 43 rfl rfl rfl
theorem dX10_looks_463 : decode cX10_looks 463 = .ok (.aload_n 0, 1) := dw_42 wX10_looks_c rfl
theorem dX10_looks_464 : decode cX10_looks 464 = .ok (.getfield 407, 3) := dw_180 wX10_looks_c 1 151 rfl rfl
theorem dX10_looks_467 : decode cX10_looks 467 = .ok (.iload 8, 2) := dw_21 wX10_looks_c 8 rfl
theorem dX10_looks_469 : decode cX10_looks 469 = .ok (.aload_n 0, 1) := dw_42 wX10_looks_c rfl
theorem dX10_looks_470 : decode cX10_looks 470 = .ok (.aload_n 0, 1) := dw_42 wX10_looks_c rfl
theorem dX10_looks_471 : decode cX10_looks 471 = .ok (.getfield 102, 3) := dw_180 wX10_looks_c 0 102 rfl rfl
theorem dX10_looks_474 : decode cX10_looks 474 = .ok (.iload_n 1, 1) := dw_27 wX10_looks_c rfl
theorem dX10_looks_475 : decode cX10_looks 475 = .ok (.iaload, 1) := dw_46 wX10_looks_c rfl
theorem dX10_looks_476 : decode cX10_looks 476 = .ok (.iconst 5, 1) := dw_8 wX10_looks_c rfl
theorem dX10_looks_477 : decode cX10_looks 477 = .ok (.invokevirtual 333, 3) := dw_182 wX10_looks_c 1 77 rfl rfl
theorem dX10_looks_480 : decode cX10_looks 480 = .ok (.iadd, 1) := dw_96 wX10_looks_c rfl
theorem dX10_looks_481 : decode cX10_looks 481 = .ok (.if_icmp .lt 8, 3) := dw_161 wX10_looks_c 0 8 rfl rfl rfl
theorem dX10_looks_484 : decode cX10_looks 484 = .ok (.bipush 6, 2) := dw_16 wX10_looks_c 6 rfl rfl rfl
theorem dX10_looks_486 : decode cX10_looks 486 = .ok (.goto 17, 3) := dw_167 wX10_looks_c 0 17 rfl rfl rfl
theorem dX10_looks_489 : decode cX10_looks 489 = .ok (.aload_n 0, 1) := dw_42 wX10_looks_c rfl
theorem dX10_looks_490 : decode cX10_looks 490 = .ok (.getfield 407, 3) := dw_180 wX10_looks_c 1 151 rfl rfl
theorem dX10_looks_493 : decode cX10_looks 493 = .ok (.iload 8, 2) := dw_21 wX10_looks_c 8 rfl
theorem dX10_looks_495 : decode cX10_looks 495 = .ok (.if_icmp .lt 7, 3) := dw_161 wX10_looks_c 0 7 rfl rfl rfl
theorem dX10_looks_498 : decode cX10_looks 498 = .ok (.iconst 5, 1) := dw_8 wX10_looks_c rfl
theorem dX10_looks_499 : decode cX10_looks 499 = .ok (.goto 4, 3) := dw_167 wX10_looks_c 0 4 rfl rfl rfl
theorem dX10_looks_502 : decode cX10_looks 502 = .ok (.iconst 4, 1) := dw_7 wX10_looks_c rfl
theorem dX10_looks_503 : decode cX10_looks 503 = .ok (.putfield 410, 3) := dw_181 wX10_looks_c 1 154 rfl rfl
theorem dX10_looks_506 : decode cX10_looks 506 = .ok (.return_, 1) := dw_177 wX10_looks_c rfl
set_option maxHeartbeats 4000000 in
set_option maxRecDepth 100000 in
theorem t_X10_looks (l : Launch) (dC : Nat → ClassId) (dI : Nat → Nat → Nat) (dA : Nat → ClassId) (L : List Nat) (h : hx_h) (sz : Nat) (x : Nat) (i1 : Int32) (i2 : Int32) (i3 : Int32) (hT : hx_T T_tb L h) (gx : hx_g L h x 10) (hi1 : 0 ≤ i1.toInt ∧ i1.toInt ≤ 99) : Met l yX10_looks (Cond.code yX10_looks cX10_looks 9 none :: hx_all) ({ frames := 1, cells := 0, slots := 0, locals := 22 }) (va_Pc [.ref x, .int i1, .int i2, .int i3] (hx_B T_tb (P_ty dA) (dC, dI) vwCl L h sz)) (va_Qv (fun (u : List Nat × hx_h) => (∃ (rs1 : Int32) (st1 : Int32) (pd1 : Int32), u.2.2.1 x 68 = rs1 ∧ u.2.2.1 x 71 = st1 ∧ u.2.2.1 x 67 = pd1 ∧ (4 ≤ st1.toInt ∧ st1.toInt ≤ 6 → 1 ≤ rs1.toInt)) ∧ hx_T T_tb u.1 u.2 ∧ hx_S T_tb [(10, 67), (10, 68), (10, 69), (10, 70), (10, 71)] L h u.1 u.2) (hx_E T_tb (P_ty dA) (dC, dI) vwCl (hx_A L sz)) (hx_A L sz)) 0 0 (hx_A L sz) := by
  refine hx_met (lv := [(0, .ref x), (1, .int i1), (2, .int i2), (3, .int i3)]) (by decide +kernel) rfl (Nat.le_of_ble_eq_true rfl) rfl ?_
  intro p e s m below meth c hx hb hml hr hlk hts0 hown hin hsz hW ls hl
  have hts : ∀ w ∈ hx_all, w.before _ s = true := fun w hw => hts0 w (List.mem_cons_of_mem _ hw)
  have hown : s.vm.findClass "SmallCourtModel" = some m.cls := hown
  have hM : hx_S T_tb [(10, 67), (10, 68), (10, 69), (10, 70), (10, 71)] L h L h := hx_S.rf
  refine lv_aload_n hx hb dX10_looks_0 rfl (lv_at hl 0 rfl) ?_
  refine lv_iconst (v := 0) hx hb dX10_looks_1 ?o0 ?_
  case o0 => decide
  refine hx_puti hx hb hts hC_10 hown hW hT (hx_S.rf (M := [(10, 67)])) (gx.S hM) tt_10 67 ?o1 rfl kw_1210 ⟨rfl, rfl, rfl⟩ rfl (x := (0 : Int32)) ?o2 rfl rfl rfl (List.mem_singleton.mpr rfl) dX10_looks_2 (fun H locs h_1 eh_1 hW hT hs => ?_)
  case o1 => decide
  case o2 => decide
  replace hM := hM.tr (hs.mono ?o3)
  case o3 => decide
  have f_2 : h_1.2.1 x 67 = (0 : Int32) := ?o4
  case o4 =>
    rw [eh_1]
    exact hx_pi_at _ _ _ _
  refine lv_aload_n hx hb dX10_looks_5 rfl (lv_at hl 0 rfl) ?_
  refine lv_iconst (v := 0) hx hb dX10_looks_6 ?o5 ?_
  case o5 => decide
  refine hx_puti hx hb hts hC_10 hown hW hT (hx_S.rf (M := [(10, 68)])) (gx.S hM) tt_10 68 ?o6 rfl kw_1211 ⟨rfl, rfl, rfl⟩ rfl (x := (0 : Int32)) ?o7 rfl rfl rfl (List.mem_singleton.mpr rfl) dX10_looks_7 (fun H locs h_3 eh_3 hW hT hs => ?_)
  case o6 => decide
  case o7 => decide
  replace f_2 := (hs.o (gx.S hM) trivial rfl).1.trans f_2
  replace hM := hM.tr (hs.mono ?o8)
  case o8 => decide
  have f_4 : h_3.2.1 x 68 = (0 : Int32) := ?o9
  case o9 =>
    rw [eh_3]
    exact hx_pi_at _ _ _ _
  refine lv_aload_n hx hb dX10_looks_10 rfl (lv_at hl 0 rfl) ?_
  refine lv_iconst (v := 0) hx hb dX10_looks_11 ?o10 ?_
  case o10 => decide
  refine hx_puti hx hb hts hC_10 hown hW hT (hx_S.rf (M := [(10, 69)])) (gx.S hM) tt_10 69 ?o11 rfl kw_1212 ⟨rfl, rfl, rfl⟩ rfl (x := (0 : Int32)) ?o12 rfl rfl rfl (List.mem_singleton.mpr rfl) dX10_looks_12 (fun H locs h_5 eh_5 hW hT hs => ?_)
  case o11 => decide
  case o12 => decide
  replace f_2 := (hs.o (gx.S hM) trivial rfl).1.trans f_2
  replace f_4 := (hs.o (gx.S hM) trivial rfl).1.trans f_4
  replace hM := hM.tr (hs.mono ?o13)
  case o13 => decide
  have f_6 : h_5.2.1 x 69 = (0 : Int32) := ?o14
  case o14 =>
    rw [eh_5]
    exact hx_pi_at _ _ _ _
  refine lv_aload_n hx hb dX10_looks_15 rfl (lv_at hl 0 rfl) ?_
  refine lv_iconst (v := 0) hx hb dX10_looks_16 ?o15 ?_
  case o15 => decide
  refine hx_puti hx hb hts hC_10 hown hW hT (hx_S.rf (M := [(10, 70)])) (gx.S hM) tt_10 70 ?o16 rfl kw_1213 ⟨rfl, rfl, rfl⟩ rfl (x := (0 : Int32)) ?o17 rfl rfl rfl (List.mem_singleton.mpr rfl) dX10_looks_17 (fun H locs h_7 eh_7 hW hT hs => ?_)
  case o16 => decide
  case o17 => decide
  replace f_2 := (hs.o (gx.S hM) trivial rfl).1.trans f_2
  replace f_4 := (hs.o (gx.S hM) trivial rfl).1.trans f_4
  replace f_6 := (hs.o (gx.S hM) trivial rfl).1.trans f_6
  replace hM := hM.tr (hs.mono ?o18)
  case o18 => decide
  have f_8 : h_7.2.1 x 70 = (0 : Int32) := ?o19
  case o19 =>
    rw [eh_7]
    exact hx_pi_at _ _ _ _
  have join49 : ∀ (jw49_x_71 : Int32) (H : Heap) (locs : List Loc) (hL1 : List Nat) (hl1 : hx_h), 0 ≤ jw49_x_71.toInt → jw49_x_71.toInt ≤ 8 → (jw49_x_71.toInt ≤ 3) → ∀ (ls : Array Slot), hx_W T_tb (P_ty dA) (dC, dI) vwCl (hx_A L sz) s.heap hL1 hl1 s H locs → hx_T T_tb hL1 hl1 → hx_S T_tb [(10, 67), (10, 68), (10, 69), (10, 70), (10, 71)] L h hL1 hl1 → hl1.2.1 x 71 = jw49_x_71 → hl1.2.1 x 67 = (0 : Int32) → hl1.2.1 x 68 = (0 : Int32) → hl1.2.1 x 69 = (0 : Int32) → hl1.2.1 x 70 = (0 : Int32) → lv_has ls 9 [(0, .ref x), (1, .int i1), (2, .int i2), (3, .int i3)] → W p l e ({ frames := 1, cells := 0, slots := 0, locals := 22 }) s m ([.ref x, .int i1, .int i2, .int i3] : List Value).toArray below meth c H locs 0 0 (MQ below (va_Qv (fun (u : List Nat × hx_h) => (∃ (rs1 : Int32) (st1 : Int32) (pd1 : Int32), u.2.2.1 x 68 = rs1 ∧ u.2.2.1 x 71 = st1 ∧ u.2.2.1 x 67 = pd1 ∧ (4 ≤ st1.toInt ∧ st1.toInt ≤ 6 → 1 ≤ rs1.toInt)) ∧ hx_T T_tb u.1 u.2 ∧ hx_S T_tb [(10, 67), (10, 68), (10, 69), (10, 70), (10, 71)] L h u.1 u.2) (hx_E T_tb (P_ty dA) (dC, dI) vwCl (hx_A L sz)) (hx_A L sz)) ([.ref x, .int i1, .int i2, .int i3] : List Value).toArray s 0 0 (hx_A L sz)) (F0 m 49 ls []) := by
    intro jw49_x_71 H locs hL1 hl1 bljw49_x_71 bujw49_x_71 vj49_0 ls hW hT hM fjw49_x_71 f_2 f_4 f_6 f_8  hl
    have join88 : ∀ (jw88_x_71 : Int32) (H : Heap) (locs : List Loc) (hL1 : List Nat) (hl1 : hx_h), 0 ≤ jw88_x_71.toInt → jw88_x_71.toInt ≤ 8 → (jw88_x_71.toInt ≤ 3) → ∀ (ls : Array Slot), hx_W T_tb (P_ty dA) (dC, dI) vwCl (hx_A L sz) s.heap hL1 hl1 s H locs → hx_T T_tb hL1 hl1 → hx_S T_tb [(10, 67), (10, 68), (10, 69), (10, 70), (10, 71)] L h hL1 hl1 → hl1.2.1 x 71 = jw88_x_71 → hl1.2.1 x 67 = (0 : Int32) → hl1.2.1 x 68 = (0 : Int32) → hl1.2.1 x 69 = (0 : Int32) → hl1.2.1 x 70 = (0 : Int32) → lv_has ls 9 [(0, .ref x), (1, .int i1), (2, .int i2), (3, .int i3)] → W p l e ({ frames := 1, cells := 0, slots := 0, locals := 22 }) s m ([.ref x, .int i1, .int i2, .int i3] : List Value).toArray below meth c H locs 0 0 (MQ below (va_Qv (fun (u : List Nat × hx_h) => (∃ (rs1 : Int32) (st1 : Int32) (pd1 : Int32), u.2.2.1 x 68 = rs1 ∧ u.2.2.1 x 71 = st1 ∧ u.2.2.1 x 67 = pd1 ∧ (4 ≤ st1.toInt ∧ st1.toInt ≤ 6 → 1 ≤ rs1.toInt)) ∧ hx_T T_tb u.1 u.2 ∧ hx_S T_tb [(10, 67), (10, 68), (10, 69), (10, 70), (10, 71)] L h u.1 u.2) (hx_E T_tb (P_ty dA) (dC, dI) vwCl (hx_A L sz)) (hx_A L sz)) ([.ref x, .int i1, .int i2, .int i3] : List Value).toArray s 0 0 (hx_A L sz)) (F0 m 88 ls []) := by
      intro jw88_x_71 H locs hL1 hl1 bljw88_x_71 bujw88_x_71 vj88_0 ls hW hT hM fjw88_x_71 f_2 f_4 f_6 f_8  hl
      refine lv_aload_n hx hb dX10_looks_88 rfl (lv_at hl 0 rfl) ?_
      refine hx_getn hx hb hts hC_10 hown hW hT (gx.S hM) tt_10 48 ?o20 rfl kw_1191 ⟨rfl, rfl, rfl⟩ dX10_looks_89 (fun q_9 fq_9 gq_9 => ?_)
      case o20 => decide
      refine lv_iload_n hx hb dX10_looks_92 rfl (lv_at hl 1 rfl) ?_
      refine hx_iald hx hb hW hT gq_9 tt_83 rfl ⟨?o21, ?o22⟩ dX10_looks_93 (fun x_10 ex_10 lx_10 ux_10 => ?_)
      case o21 => omega
      case o22 => omega
      refine lv_iconst (v := -1) hx hb dX10_looks_94 ?o23 ?_
      case o23 => decide
      refine hb_icmp_eq (zx := x_10.toInt) (zy := (-1)) (tgt := 108) hx hb rfl ?o24 dX10_looks_95 ?o25 (fun c_11 => ?_) (fun c_11 => ?_)
      case o24 => decide
      case o25 => decide
      · skip
        have zo_0 : (0 : Int32).toInt = 0 := ?o26
        case o26 => decide
        have zo_0 : (0 : Int32).toInt = 0 := ?o27
        case o27 => decide
        exact hx_retv hx hb hr hlk hW ⟨⟨(0 : Int32), jw88_x_71, (0 : Int32), f_4, fjw88_x_71, f_2, (by first | omega | (refine ⟨?_, ?_⟩ <;> omega))⟩, hT, hM⟩ dX10_looks_108
      · skip
        refine lv_aload_n hx hb dX10_looks_98 rfl (lv_at hl 0 rfl) ?_
        refine hk_getr hx hb hts hC_10 hown hW (gx.S hM) tt_10 48 ?o28 rfl kw_1191 ⟨rfl, rfl, rfl⟩ fq_9 dX10_looks_99 ?_
        case o28 => decide
        refine lv_iload_n hx hb dX10_looks_102 rfl (lv_at hl 1 rfl) ?_
        refine hx_iald hx hb hW hT gq_9 tt_83 rfl ⟨?o29, ?o30⟩ dX10_looks_103 (fun x_12 ex_12 lx_12 ux_12 => ?_)
        case o29 => omega
        case o30 => omega
        obtain rfl : x_10 = x_12 := ex_10.trans ex_12.symm
        refine lv_iload_n hx hb dX10_looks_104 rfl (lv_at hl 2 rfl) ?_
        refine hb_icmp_le (zx := x_10.toInt) (zy := i2.toInt) (tgt := 109) hx hb rfl rfl dX10_looks_105 ?o31 (fun c_13 => ?_) (fun c_13 => ?_)
        case o31 => decide
        · skip
          have join136 : ∀ (jv136_4 : Int32) (H : Heap) (locs : List Loc) (hL1 : List Nat) (hl1 : hx_h), 0 ≤ jv136_4.toInt → jv136_4.toInt ≤ 1 → ∀ (ls : Array Slot), hx_W T_tb (P_ty dA) (dC, dI) vwCl (hx_A L sz) s.heap hL1 hl1 s H locs → hx_T T_tb hL1 hl1 → hx_S T_tb [(10, 67), (10, 68), (10, 69), (10, 70), (10, 71)] L h hL1 hl1 → hl1.2.1 x 67 = (0 : Int32) → hl1.2.1 x 68 = (0 : Int32) → hl1.2.1 x 69 = (0 : Int32) → hl1.2.1 x 70 = (0 : Int32) → hl1.2.1 x 71 = jw88_x_71 → hl1.2.2 x 48 = some q_9 → hx_g hL1 hl1 q_9 83 → lv_has ls 9 [(4, .int jv136_4), (0, .ref x), (1, .int i1), (2, .int i2), (3, .int i3)] → W p l e ({ frames := 1, cells := 0, slots := 0, locals := 22 }) s m ([.ref x, .int i1, .int i2, .int i3] : List Value).toArray below meth c H locs 0 0 (MQ below (va_Qv (fun (u : List Nat × hx_h) => (∃ (rs1 : Int32) (st1 : Int32) (pd1 : Int32), u.2.2.1 x 68 = rs1 ∧ u.2.2.1 x 71 = st1 ∧ u.2.2.1 x 67 = pd1 ∧ (4 ≤ st1.toInt ∧ st1.toInt ≤ 6 → 1 ≤ rs1.toInt)) ∧ hx_T T_tb u.1 u.2 ∧ hx_S T_tb [(10, 67), (10, 68), (10, 69), (10, 70), (10, 71)] L h u.1 u.2) (hx_E T_tb (P_ty dA) (dC, dI) vwCl (hx_A L sz)) (hx_A L sz)) ([.ref x, .int i1, .int i2, .int i3] : List Value).toArray s 0 0 (hx_A L sz)) (F0 m 136 ls []) := by
            intro jv136_4 H locs hL1 hl1 bljv136_4 bujv136_4  ls hW hT hM f_2 f_4 f_6 f_8 fjw88_x_71 fq_9 gq_9 hl
            refine lv_iconst (v := 0) hx hb dX10_looks_136 ?o32 ?_
            case o32 => decide
            refine lv_istore (lv' := [(5, .int (0 : Int32)), (4, .int jv136_4), (0, .ref x), (1, .int i1), (2, .int i2), (3, .int i3)]) hx hb dX10_looks_137 hl ?o33 rfl (fun ls hl => ?_)
            case o33 => decide
            have loop139 : ∀ (n139 : Nat) (iv139_5 fw139_x_67 : Int32) (H : Heap) (locs : List Loc) (hL1 : List Nat) (hl1 : hx_h), 0 ≤ iv139_5.toInt → iv139_5.toInt ≤ 600 → 0 ≤ fw139_x_67.toInt → fw139_x_67.toInt ≤ 366100000 → (fw139_x_67.toInt ≤ 610000 * iv139_5.toInt) → ∀ (ls : Array Slot), 600 - iv139_5.toInt < (n139 : Int) → hx_W T_tb (P_ty dA) (dC, dI) vwCl (hx_A L sz) s.heap hL1 hl1 s H locs → hx_T T_tb hL1 hl1 → hx_S T_tb [(10, 67), (10, 68), (10, 69), (10, 70), (10, 71)] L h hL1 hl1 → hl1.2.1 x 67 = fw139_x_67 → hl1.2.1 x 68 = (0 : Int32) → hl1.2.1 x 69 = (0 : Int32) → hl1.2.1 x 70 = (0 : Int32) → hl1.2.1 x 71 = jw88_x_71 → hl1.2.2 x 48 = some q_9 → hx_g hL1 hl1 q_9 83 → lv_has ls 9 [(5, .int iv139_5), (4, .int jv136_4), (0, .ref x), (1, .int i1), (2, .int i2), (3, .int i3)] → W p l e ({ frames := 1, cells := 0, slots := 0, locals := 22 }) s m ([.ref x, .int i1, .int i2, .int i3] : List Value).toArray below meth c H locs 0 0 (MQ below (va_Qv (fun (u : List Nat × hx_h) => (∃ (rs1 : Int32) (st1 : Int32) (pd1 : Int32), u.2.2.1 x 68 = rs1 ∧ u.2.2.1 x 71 = st1 ∧ u.2.2.1 x 67 = pd1 ∧ (4 ≤ st1.toInt ∧ st1.toInt ≤ 6 → 1 ≤ rs1.toInt)) ∧ hx_T T_tb u.1 u.2 ∧ hx_S T_tb [(10, 67), (10, 68), (10, 69), (10, 70), (10, 71)] L h u.1 u.2) (hx_E T_tb (P_ty dA) (dC, dI) vwCl (hx_A L sz)) (hx_A L sz)) ([.ref x, .int i1, .int i2, .int i3] : List Value).toArray s 0 0 (hx_A L sz)) (F0 m 139 ls []) := by
              intro n139
              induction n139 with
              | zero => intro iv139_5 fw139_x_67 H locs hL1 hl1 bliv139_5 buiv139_5 blfw139_x_67 bufw139_x_67 vi139_0 ls hn139; exfalso; omega
              | succ n139 ih139 =>
                intro iv139_5 fw139_x_67 H locs hL1 hl1 bliv139_5 buiv139_5 blfw139_x_67 bufw139_x_67 vi139_0 ls hn139 hW hT hM ffw139_x_67 f_4 f_6 f_8 fjw88_x_71 fq_9 gq_9 hl
                refine lv_iload hx hb dX10_looks_139 (lv_at hl 0 rfl) ?_
                refine lv_aload_n hx hb dX10_looks_141 rfl (lv_at hl 2 rfl) ?_
                refine hx_geti hx hb hts hC_10 hown hW hT (gx.S hM) tt_10 59 ?o34 rfl kw_1202 ⟨rfl, rfl, rfl⟩ dX10_looks_142 (fun x_14 ex_14 lx_14 ux_14 => ?_)
                case o34 => decide
                have fx_14 := ex_14.symm
                refine hb_icmp_ge (zx := iv139_5.toInt) (zy := x_14.toInt) (tgt := 225) hx hb rfl rfl dX10_looks_145 ?o35 (fun c_15 => ?_) (fun c_15 => ?_)
                case o35 => decide
                · skip
                  have join279 : ∀ (jv279_5 jw279_x_67 : Int32) (H : Heap) (locs : List Loc) (hL1 : List Nat) (hl1 : hx_h), 0 ≤ jv279_5.toInt → jv279_5.toInt ≤ 609999 → 0 ≤ jw279_x_67.toInt → jw279_x_67.toInt ≤ 366100000 → ∀ (ls : Array Slot), hx_W T_tb (P_ty dA) (dC, dI) vwCl (hx_A L sz) s.heap hL1 hl1 s H locs → hx_T T_tb hL1 hl1 → hx_S T_tb [(10, 67), (10, 68), (10, 69), (10, 70), (10, 71)] L h hL1 hl1 → hl1.2.1 x 67 = jw279_x_67 → hl1.2.1 x 68 = (0 : Int32) → hl1.2.1 x 69 = (0 : Int32) → hl1.2.1 x 70 = (0 : Int32) → hl1.2.2 x 48 = some q_9 → hl1.2.1 x 59 = x_14 → hx_g hL1 hl1 q_9 83 → lv_has ls 9 [(5, .int jv279_5), (4, .int jv136_4), (0, .ref x), (1, .int i1), (2, .int i2), (3, .int i3)] → W p l e ({ frames := 1, cells := 0, slots := 0, locals := 22 }) s m ([.ref x, .int i1, .int i2, .int i3] : List Value).toArray below meth c H locs 0 0 (MQ below (va_Qv (fun (u : List Nat × hx_h) => (∃ (rs1 : Int32) (st1 : Int32) (pd1 : Int32), u.2.2.1 x 68 = rs1 ∧ u.2.2.1 x 71 = st1 ∧ u.2.2.1 x 67 = pd1 ∧ (4 ≤ st1.toInt ∧ st1.toInt ≤ 6 → 1 ≤ rs1.toInt)) ∧ hx_T T_tb u.1 u.2 ∧ hx_S T_tb [(10, 67), (10, 68), (10, 69), (10, 70), (10, 71)] L h u.1 u.2) (hx_E T_tb (P_ty dA) (dC, dI) vwCl (hx_A L sz)) (hx_A L sz)) ([.ref x, .int i1, .int i2, .int i3] : List Value).toArray s 0 0 (hx_A L sz)) (F0 m 279 ls []) := by
                    intro jv279_5 jw279_x_67 H locs hL1 hl1 bljv279_5 bujv279_5 bljw279_x_67 bujw279_x_67  ls hW hT hM fjw279_x_67 f_4 f_6 f_8 fq_9 fx_14 gq_9 hl
                    refine lv_aload_n hx hb dX10_looks_279 rfl (lv_at hl 2 rfl) ?_
                    refine hx_getn hx hb hts hC_10 hown hW hT (gx.S hM) tt_10 50 ?o36 rfl kw_1193 ⟨rfl, rfl, rfl⟩ dX10_looks_280 (fun q_16 fq_16 gq_16 => ?_)
                    case o36 => decide
                    refine lv_iload_n hx hb dX10_looks_283 rfl (lv_at hl 3 rfl) ?_
                    refine hx_iald hx hb hW hT gq_16 tt_85 rfl ⟨?o37, ?o38⟩ dX10_looks_284 (fun x_17 ex_17 lx_17 ux_17 => ?_)
                    case o37 => omega
                    case o38 => omega
                    refine lv_iconst (v := -1) hx hb dX10_looks_285 ?o39 ?_
                    case o39 => decide
                    refine hb_icmp_eq (zx := x_17.toInt) (zy := (-1)) (tgt := 306) hx hb rfl ?o40 dX10_looks_286 ?o41 (fun c_18 => ?_) (fun c_18 => ?_)
                    case o40 => decide
                    case o41 => decide
                    · skip
                      have join330 : ∀ (jw330_x_68 : Int32) (H : Heap) (locs : List Loc) (hL1 : List Nat) (hl1 : hx_h), 0 ≤ jw330_x_68.toInt → jw330_x_68.toInt ≤ 610000 → ∀ (ls : Array Slot), hx_W T_tb (P_ty dA) (dC, dI) vwCl (hx_A L sz) s.heap hL1 hl1 s H locs → hx_T T_tb hL1 hl1 → hx_S T_tb [(10, 67), (10, 68), (10, 69), (10, 70), (10, 71)] L h hL1 hl1 → hl1.2.1 x 68 = jw330_x_68 → hl1.2.1 x 69 = (0 : Int32) → hl1.2.1 x 70 = (0 : Int32) → hl1.2.2 x 48 = some q_9 → hl1.2.1 x 59 = x_14 → hl1.2.1 x 67 = jw279_x_67 → hl1.2.2 x 50 = some q_16 → hx_g hL1 hl1 q_9 83 → hx_g hL1 hl1 q_16 85 → lv_has ls 9 [(5, .int jv279_5), (4, .int jv136_4), (0, .ref x), (1, .int i1), (2, .int i2), (3, .int i3)] → W p l e ({ frames := 1, cells := 0, slots := 0, locals := 22 }) s m ([.ref x, .int i1, .int i2, .int i3] : List Value).toArray below meth c H locs 0 0 (MQ below (va_Qv (fun (u : List Nat × hx_h) => (∃ (rs1 : Int32) (st1 : Int32) (pd1 : Int32), u.2.2.1 x 68 = rs1 ∧ u.2.2.1 x 71 = st1 ∧ u.2.2.1 x 67 = pd1 ∧ (4 ≤ st1.toInt ∧ st1.toInt ≤ 6 → 1 ≤ rs1.toInt)) ∧ hx_T T_tb u.1 u.2 ∧ hx_S T_tb [(10, 67), (10, 68), (10, 69), (10, 70), (10, 71)] L h u.1 u.2) (hx_E T_tb (P_ty dA) (dC, dI) vwCl (hx_A L sz)) (hx_A L sz)) ([.ref x, .int i1, .int i2, .int i3] : List Value).toArray s 0 0 (hx_A L sz)) (F0 m 330 ls []) := by
                        intro jw330_x_68 H locs hL1 hl1 bljw330_x_68 bujw330_x_68  ls hW hT hM fjw330_x_68 f_6 f_8 fq_9 fx_14 fjw279_x_67 fq_16 gq_9 gq_16 hl
                        have join354 : ∀ (jw354_x_69 : Int32) (H : Heap) (locs : List Loc) (hL1 : List Nat) (hl1 : hx_h), -2147483648 ≤ jw354_x_69.toInt → jw354_x_69.toInt ≤ 2147483647 → ∀ (ls : Array Slot), hx_W T_tb (P_ty dA) (dC, dI) vwCl (hx_A L sz) s.heap hL1 hl1 s H locs → hx_T T_tb hL1 hl1 → hx_S T_tb [(10, 67), (10, 68), (10, 69), (10, 70), (10, 71)] L h hL1 hl1 → hl1.2.1 x 69 = jw354_x_69 → hl1.2.1 x 70 = (0 : Int32) → hl1.2.2 x 48 = some q_9 → hl1.2.1 x 59 = x_14 → hl1.2.1 x 67 = jw279_x_67 → hl1.2.2 x 50 = some q_16 → hl1.2.1 x 68 = jw330_x_68 → hx_g hL1 hl1 q_9 83 → hx_g hL1 hl1 q_16 85 → lv_has ls 9 [(5, .int jv279_5), (4, .int jv136_4), (0, .ref x), (1, .int i1), (2, .int i2), (3, .int i3)] → W p l e ({ frames := 1, cells := 0, slots := 0, locals := 22 }) s m ([.ref x, .int i1, .int i2, .int i3] : List Value).toArray below meth c H locs 0 0 (MQ below (va_Qv (fun (u : List Nat × hx_h) => (∃ (rs1 : Int32) (st1 : Int32) (pd1 : Int32), u.2.2.1 x 68 = rs1 ∧ u.2.2.1 x 71 = st1 ∧ u.2.2.1 x 67 = pd1 ∧ (4 ≤ st1.toInt ∧ st1.toInt ≤ 6 → 1 ≤ rs1.toInt)) ∧ hx_T T_tb u.1 u.2 ∧ hx_S T_tb [(10, 67), (10, 68), (10, 69), (10, 70), (10, 71)] L h u.1 u.2) (hx_E T_tb (P_ty dA) (dC, dI) vwCl (hx_A L sz)) (hx_A L sz)) ([.ref x, .int i1, .int i2, .int i3] : List Value).toArray s 0 0 (hx_A L sz)) (F0 m 354 ls []) := by
                          intro jw354_x_69 H locs hL1 hl1 bljw354_x_69 bujw354_x_69  ls hW hT hM fjw354_x_69 f_8 fq_9 fx_14 fjw279_x_67 fq_16 fjw330_x_68 gq_9 gq_16 hl
                          have join437 : ∀ (jw437_x_70 : Int32) (H : Heap) (locs : List Loc) (hL1 : List Nat) (hl1 : hx_h), -2147483648 ≤ jw437_x_70.toInt → jw437_x_70.toInt ≤ 2147483647 → ∀ (ls : Array Slot), hx_W T_tb (P_ty dA) (dC, dI) vwCl (hx_A L sz) s.heap hL1 hl1 s H locs → hx_T T_tb hL1 hl1 → hx_S T_tb [(10, 67), (10, 68), (10, 69), (10, 70), (10, 71)] L h hL1 hl1 → hl1.2.1 x 70 = jw437_x_70 → hl1.2.2 x 48 = some q_9 → hl1.2.1 x 59 = x_14 → hl1.2.1 x 67 = jw279_x_67 → hl1.2.2 x 50 = some q_16 → hl1.2.1 x 68 = jw330_x_68 → hl1.2.1 x 69 = jw354_x_69 → hx_g hL1 hl1 q_9 83 → hx_g hL1 hl1 q_16 85 → lv_has ls 9 [(5, .int jv279_5), (4, .int jv136_4), (0, .ref x), (1, .int i1), (2, .int i2), (3, .int i3)] → W p l e ({ frames := 1, cells := 0, slots := 0, locals := 22 }) s m ([.ref x, .int i1, .int i2, .int i3] : List Value).toArray below meth c H locs 0 0 (MQ below (va_Qv (fun (u : List Nat × hx_h) => (∃ (rs1 : Int32) (st1 : Int32) (pd1 : Int32), u.2.2.1 x 68 = rs1 ∧ u.2.2.1 x 71 = st1 ∧ u.2.2.1 x 67 = pd1 ∧ (4 ≤ st1.toInt ∧ st1.toInt ≤ 6 → 1 ≤ rs1.toInt)) ∧ hx_T T_tb u.1 u.2 ∧ hx_S T_tb [(10, 67), (10, 68), (10, 69), (10, 70), (10, 71)] L h u.1 u.2) (hx_E T_tb (P_ty dA) (dC, dI) vwCl (hx_A L sz)) (hx_A L sz)) ([.ref x, .int i1, .int i2, .int i3] : List Value).toArray s 0 0 (hx_A L sz)) (F0 m 437 ls []) := by
                            intro jw437_x_70 H locs hL1 hl1 bljw437_x_70 bujw437_x_70  ls hW hT hM fjw437_x_70 fq_9 fx_14 fjw279_x_67 fq_16 fjw330_x_68 fjw354_x_69 gq_9 gq_16 hl
                            refine lv_aload_n hx hb dX10_looks_437 rfl (lv_at hl 2 rfl) ?_
                            refine lv_aload_n hx hb dX10_looks_438 rfl (lv_at hl 2 rfl) ?_
                            refine hx_getn hx hb hts hC_10 hown hW hT (gx.S hM) tt_10 44 ?o42 rfl kw_1187 ⟨rfl, rfl, rfl⟩ dX10_looks_439 (fun q_19 fq_19 gq_19 => ?_)
                            case o42 => decide
                            refine lv_iload_n hx hb dX10_looks_442 rfl (lv_at hl 3 rfl) ?_
                            refine hx_iald hx hb hW hT gq_19 tt_79 rfl ⟨?o43, ?o44⟩ dX10_looks_443 (fun x_20 ex_20 lx_20 ux_20 => ?_)
                            case o43 => omega
                            case o44 => omega
                            refine lv_iconst (v := 4) hx hb dX10_looks_444 ?o45 ?_
                            case o45 => decide
                            have zc_4 : (4 : Int32).toInt = 4 := ?o46
                            case o46 => decide
                            refine hx_goi (hx_runV (As := [.int x_20, .int (4 : Int32)]) (rest := []) ⟨hx, hb, hml, hown, hts⟩ hW (gx.S hM) tt_10 (T := TX10) (N := 98) rfl (t_X10_ruleOf l dC dI dA hL1 hl1 H.size x x_20 (4 : Int32) hT (gx.S hM) ⟨?o47, ?o48⟩ ?o49) (cwV 2 hts (hx_gV kw_1533 kw_1530 kw_1532 kw_66 kw_103) rfl rfl rfl (by decide +kernel) ⟨Nat.le_of_ble_eq_true rfl, Nat.le_of_ble_eq_true rfl⟩) rfl hl.1 rfl (Nat.le_of_ble_eq_true rfl) dX10_looks_445 ⟨Nat.le_of_ble_eq_true rfl, Nat.le_of_ble_eq_true rfl⟩) hW (fun r_23 L_21 h_22 H locs p_24 hW => ?_)
                            case o47 => omega
                            case o48 => omega
                            case o49 => decide
                            obtain ⟨hr_25, hT, hs⟩ := p_24
                            replace hT : hx_T T_tb L_21 h_22 := hT
                            replace hs : hx_S T_tb [] hL1 hl1 L_21 h_22 := hs
                            replace fq_9 := (hs.o (gx.S hM) trivial rfl).2.trans fq_9
                            replace fx_14 := (hs.o (gx.S hM) trivial rfl).1.trans fx_14
                            replace fjw279_x_67 := (hs.o (gx.S hM) trivial rfl).1.trans fjw279_x_67
                            replace fq_16 := (hs.o (gx.S hM) trivial rfl).2.trans fq_16
                            replace fjw330_x_68 := (hs.o (gx.S hM) trivial rfl).1.trans fjw330_x_68
                            replace fjw354_x_69 := (hs.o (gx.S hM) trivial rfl).1.trans fjw354_x_69
                            replace fjw437_x_70 := (hs.o (gx.S hM) trivial rfl).1.trans fjw437_x_70
                            replace fq_19 := (hs.o (gx.S hM) trivial rfl).2.trans fq_19
                            replace ex_20 := ex_20.trans (hs.a gq_19 rfl _).1.symm
                            replace hM := hM.tr (hs.mono ?o50)
                            case o50 => decide
                            replace gq_9 := gq_9.S hs
                            replace gq_16 := gq_16.S hs
                            replace gq_19 := gq_19.S hs
                            refine lv_istore (lv' := [(8, .int r_23), (5, .int jv279_5), (4, .int jv136_4), (0, .ref x), (1, .int i1), (2, .int i2), (3, .int i3)]) hx hb dX10_looks_448 hl ?o51 rfl (fun ls hl => ?_)
                            case o51 => decide
                            refine lv_aload_n hx hb dX10_looks_450 rfl (lv_at hl 3 rfl) ?_
                            refine lv_aload_n hx hb dX10_looks_451 rfl (lv_at hl 3 rfl) ?_
                            refine hk_geti hx hb hts hC_10 hown hW (gx.S hM) tt_10 68 ?o52 rfl kw_1211 ⟨rfl, rfl, rfl⟩ fjw330_x_68 dX10_looks_452 ?_
                            case o52 => decide
                            refine hb_if_ne (zx := jw330_x_68.toInt) (tgt := 463) hx hb rfl dX10_looks_455 ?o53 (fun c_26 => ?_) (fun c_26 => ?_)
                            case o53 => decide
                            · skip
                              refine lv_aload_n hx hb dX10_looks_463 rfl (lv_at hl 3 rfl) ?_
                              refine hk_geti hx hb hts hC_10 hown hW (gx.S hM) tt_10 70 ?o54 rfl kw_1213 ⟨rfl, rfl, rfl⟩ fjw437_x_70 dX10_looks_464 ?_
                              case o54 => decide
                              refine lv_iload hx hb dX10_looks_467 (lv_at hl 0 rfl) ?_
                              refine lv_aload_n hx hb dX10_looks_469 rfl (lv_at hl 3 rfl) ?_
                              refine lv_aload_n hx hb dX10_looks_470 rfl (lv_at hl 3 rfl) ?_
                              refine hk_getr hx hb hts hC_10 hown hW (gx.S hM) tt_10 44 ?o55 rfl kw_1187 ⟨rfl, rfl, rfl⟩ fq_19 dX10_looks_471 ?_
                              case o55 => decide
                              refine lv_iload_n hx hb dX10_looks_474 rfl (lv_at hl 4 rfl) ?_
                              refine hx_iald hx hb hW hT gq_19 tt_79 rfl ⟨?o56, ?o57⟩ dX10_looks_475 (fun x_27 ex_27 lx_27 ux_27 => ?_)
                              case o56 => omega
                              case o57 => omega
                              obtain rfl : x_20 = x_27 := ex_20.trans ex_27.symm
                              refine lv_iconst (v := 5) hx hb dX10_looks_476 ?o58 ?_
                              case o58 => decide
                              have zc_5 : (5 : Int32).toInt = 5 := ?o59
                              case o59 => decide
                              refine hx_goi (hx_runV (As := [.int x_20, .int (5 : Int32)]) (rest := [.int r_23, .int jw437_x_70, .ref x]) ⟨hx, hb, hml, hown, hts⟩ hW (gx.S hM) tt_10 (T := TX10) (N := 98) rfl (t_X10_ruleOf l dC dI dA L_21 h_22 H.size x x_20 (5 : Int32) hT (gx.S hM) ⟨?o60, ?o61⟩ ?o62) (cwV 2 hts (hx_gV kw_1533 kw_1530 kw_1532 kw_66 kw_103) rfl rfl rfl (by decide +kernel) ⟨Nat.le_of_ble_eq_true rfl, Nat.le_of_ble_eq_true rfl⟩) rfl hl.1 rfl (Nat.le_of_ble_eq_true rfl) dX10_looks_477 ⟨Nat.le_of_ble_eq_true rfl, Nat.le_of_ble_eq_true rfl⟩) hW (fun r_30 L_28 h_29 H locs p_31 hW => ?_)
                              case o60 => omega
                              case o61 => omega
                              case o62 => decide
                              obtain ⟨hr_32, hT, hs⟩ := p_31
                              replace hT : hx_T T_tb L_28 h_29 := hT
                              replace hs : hx_S T_tb [] L_21 h_22 L_28 h_29 := hs
                              replace fq_9 := (hs.o (gx.S hM) trivial rfl).2.trans fq_9
                              replace fx_14 := (hs.o (gx.S hM) trivial rfl).1.trans fx_14
                              replace fjw279_x_67 := (hs.o (gx.S hM) trivial rfl).1.trans fjw279_x_67
                              replace fq_16 := (hs.o (gx.S hM) trivial rfl).2.trans fq_16
                              replace fjw330_x_68 := (hs.o (gx.S hM) trivial rfl).1.trans fjw330_x_68
                              replace fjw354_x_69 := (hs.o (gx.S hM) trivial rfl).1.trans fjw354_x_69
                              replace fjw437_x_70 := (hs.o (gx.S hM) trivial rfl).1.trans fjw437_x_70
                              replace fq_19 := (hs.o (gx.S hM) trivial rfl).2.trans fq_19
                              replace ex_20 := ex_20.trans (hs.a gq_19 rfl _).1.symm
                              replace hM := hM.tr (hs.mono ?o63)
                              case o63 => decide
                              replace gq_9 := gq_9.S hs
                              replace gq_16 := gq_16.S hs
                              replace gq_19 := gq_19.S hs
                              refine lv_iadd hx hb dX10_looks_480 ?_
                              have rg_33 := i32_r r_23
                              have rg_34 := i32_r r_30
                              refine lv_topi (fun x_35 ex_35 => ?_)
                              have zx_35 : x_35.toInt = r_23.toInt + r_30.toInt := ?o64
                              case o64 =>
                                rw [ex_35]
                                refine i32_add rfl rfl ?o65 ?o66
                                case o65 => omega
                                case o66 => omega
                              refine hb_icmp_lt (zx := jw437_x_70.toInt) (zy := x_35.toInt) (tgt := 489) hx hb rfl rfl dX10_looks_481 ?o67 (fun c_36 => ?_) (fun c_36 => ?_)
                              case o67 => decide
                              · skip
                                refine lv_aload_n hx hb dX10_looks_489 rfl (lv_at hl 3 rfl) ?_
                                refine hk_geti hx hb hts hC_10 hown hW (gx.S hM) tt_10 70 ?o68 rfl kw_1213 ⟨rfl, rfl, rfl⟩ fjw437_x_70 dX10_looks_490 ?_
                                case o68 => decide
                                refine lv_iload hx hb dX10_looks_493 (lv_at hl 0 rfl) ?_
                                have jn_503 : ∀ (xj_37 : Int32) (ls : Array Slot), 4 ≤ xj_37.toInt → xj_37.toInt ≤ 5 → lv_has ls 9 [(8, .int r_23), (5, .int jv279_5), (4, .int jv136_4), (0, .ref x), (1, .int i1), (2, .int i2), (3, .int i3)] → W p l e ({ frames := 1, cells := 0, slots := 0, locals := 22 }) s m ([.ref x, .int i1, .int i2, .int i3] : List Value).toArray below meth c H locs 0 0 (MQ below (va_Qv (fun (u : List Nat × hx_h) => (∃ (rs1 : Int32) (st1 : Int32) (pd1 : Int32), u.2.2.1 x 68 = rs1 ∧ u.2.2.1 x 71 = st1 ∧ u.2.2.1 x 67 = pd1 ∧ (4 ≤ st1.toInt ∧ st1.toInt ≤ 6 → 1 ≤ rs1.toInt)) ∧ hx_T T_tb u.1 u.2 ∧ hx_S T_tb [(10, 67), (10, 68), (10, 69), (10, 70), (10, 71)] L h u.1 u.2) (hx_E T_tb (P_ty dA) (dC, dI) vwCl (hx_A L sz)) (hx_A L sz)) ([.ref x, .int i1, .int i2, .int i3] : List Value).toArray s 0 0 (hx_A L sz)) (F0 m 503 ls [.int xj_37, .ref x]) := by
                                  intro xj_37 ls blxj_37 buxj_37 hl
                                  refine hx_puti hx hb hts hC_10 hown hW hT (hx_S.rf (M := [(10, 71)])) (gx.S hM) tt_10 71 ?o69 rfl kw_1214 ⟨rfl, rfl, rfl⟩ rfl (x := xj_37) ⟨?o70, ?o71⟩ rfl rfl rfl (List.mem_singleton.mpr rfl) dX10_looks_503 (fun H locs h_38 eh_38 hW hT hs => ?_)
                                  case o69 => decide
                                  case o70 => omega
                                  case o71 => omega
                                  replace fq_9 := (hs.o (gx.S hM) trivial rfl).2.trans fq_9
                                  replace fx_14 := (hs.o (gx.S hM) trivial rfl).1.trans fx_14
                                  replace fjw279_x_67 := (hs.o (gx.S hM) trivial rfl).1.trans fjw279_x_67
                                  replace fq_16 := (hs.o (gx.S hM) trivial rfl).2.trans fq_16
                                  replace fjw330_x_68 := (hs.o (gx.S hM) trivial rfl).1.trans fjw330_x_68
                                  replace fjw354_x_69 := (hs.o (gx.S hM) trivial rfl).1.trans fjw354_x_69
                                  replace fjw437_x_70 := (hs.o (gx.S hM) trivial rfl).1.trans fjw437_x_70
                                  replace fq_19 := (hs.o (gx.S hM) trivial rfl).2.trans fq_19
                                  replace ex_20 := ex_20.trans (hs.a gq_19 rfl _).1.symm
                                  replace hM := hM.tr (hs.mono ?o72)
                                  case o72 => decide
                                  replace gq_9 := gq_9.S hs
                                  replace gq_16 := gq_16.S hs
                                  replace gq_19 := gq_19.S hs
                                  have f_39 : h_38.2.1 x 71 = xj_37 := ?o73
                                  case o73 =>
                                    rw [eh_38]
                                    exact hx_pi_at _ _ _ _
                                  exact hx_retv hx hb hr hlk hW ⟨⟨jw330_x_68, xj_37, jw279_x_67, fjw330_x_68, f_39, fjw279_x_67, (by first | omega | (refine ⟨?_, ?_⟩ <;> omega))⟩, hT, hM⟩ dX10_looks_506
                                refine hb_icmp_lt (zx := jw437_x_70.toInt) (zy := r_23.toInt) (tgt := 502) hx hb rfl rfl dX10_looks_495 ?o74 (fun c_40 => ?_) (fun c_40 => ?_)
                                case o74 => decide
                                · skip
                                  refine lv_iconst (v := 4) hx hb dX10_looks_502 ?o75 ?_
                                  case o75 => decide
                                  refine jn_503 (4 : Int32) ls ?o76 ?o77 hl
                                  case o76 => decide
                                  case o77 => decide
                                · skip
                                  refine lv_iconst (v := 5) hx hb dX10_looks_498 ?o78 ?_
                                  case o78 => decide
                                  refine lv_goto (tgt := 503) hx hb dX10_looks_499 ?o79 ?_
                                  case o79 => decide
                                  refine jn_503 (5 : Int32) ls ?o80 ?o81 hl
                                  case o80 => decide
                                  case o81 => decide
                              · skip
                                refine lv_bipush (v := 6) hx hb dX10_looks_484 ?o82 ?_
                                case o82 => decide
                                refine lv_goto (tgt := 503) hx hb dX10_looks_486 ?o83 ?_
                                case o83 => decide
                                refine hx_puti hx hb hts hC_10 hown hW hT (hx_S.rf (M := [(10, 71)])) (gx.S hM) tt_10 71 ?o84 rfl kw_1214 ⟨rfl, rfl, rfl⟩ rfl (x := (6 : Int32)) ?o85 rfl rfl rfl (List.mem_singleton.mpr rfl) dX10_looks_503 (fun H locs h_41 eh_41 hW hT hs => ?_)
                                case o84 => decide
                                case o85 => decide
                                replace fq_9 := (hs.o (gx.S hM) trivial rfl).2.trans fq_9
                                replace fx_14 := (hs.o (gx.S hM) trivial rfl).1.trans fx_14
                                replace fjw279_x_67 := (hs.o (gx.S hM) trivial rfl).1.trans fjw279_x_67
                                replace fq_16 := (hs.o (gx.S hM) trivial rfl).2.trans fq_16
                                replace fjw330_x_68 := (hs.o (gx.S hM) trivial rfl).1.trans fjw330_x_68
                                replace fjw354_x_69 := (hs.o (gx.S hM) trivial rfl).1.trans fjw354_x_69
                                replace fjw437_x_70 := (hs.o (gx.S hM) trivial rfl).1.trans fjw437_x_70
                                replace fq_19 := (hs.o (gx.S hM) trivial rfl).2.trans fq_19
                                replace ex_20 := ex_20.trans (hs.a gq_19 rfl _).1.symm
                                replace hM := hM.tr (hs.mono ?o86)
                                case o86 => decide
                                replace gq_9 := gq_9.S hs
                                replace gq_16 := gq_16.S hs
                                replace gq_19 := gq_19.S hs
                                have f_42 : h_41.2.1 x 71 = (6 : Int32) := ?o87
                                case o87 =>
                                  rw [eh_41]
                                  exact hx_pi_at _ _ _ _
                                have zo_6 : (6 : Int32).toInt = 6 := ?o88
                                case o88 => decide
                                exact hx_retv hx hb hr hlk hW ⟨⟨jw330_x_68, (6 : Int32), jw279_x_67, fjw330_x_68, f_42, fjw279_x_67, (by first | omega | (refine ⟨?_, ?_⟩ <;> omega))⟩, hT, hM⟩ dX10_looks_506
                            · skip
                              refine lv_bipush (v := 7) hx hb dX10_looks_458 ?o89 ?_
                              case o89 => decide
                              refine lv_goto (tgt := 503) hx hb dX10_looks_460 ?o90 ?_
                              case o90 => decide
                              refine hx_puti hx hb hts hC_10 hown hW hT (hx_S.rf (M := [(10, 71)])) (gx.S hM) tt_10 71 ?o91 rfl kw_1214 ⟨rfl, rfl, rfl⟩ rfl (x := (7 : Int32)) ?o92 rfl rfl rfl (List.mem_singleton.mpr rfl) dX10_looks_503 (fun H locs h_43 eh_43 hW hT hs => ?_)
                              case o91 => decide
                              case o92 => decide
                              replace fq_9 := (hs.o (gx.S hM) trivial rfl).2.trans fq_9
                              replace fx_14 := (hs.o (gx.S hM) trivial rfl).1.trans fx_14
                              replace fjw279_x_67 := (hs.o (gx.S hM) trivial rfl).1.trans fjw279_x_67
                              replace fq_16 := (hs.o (gx.S hM) trivial rfl).2.trans fq_16
                              replace fjw330_x_68 := (hs.o (gx.S hM) trivial rfl).1.trans fjw330_x_68
                              replace fjw354_x_69 := (hs.o (gx.S hM) trivial rfl).1.trans fjw354_x_69
                              replace fjw437_x_70 := (hs.o (gx.S hM) trivial rfl).1.trans fjw437_x_70
                              replace fq_19 := (hs.o (gx.S hM) trivial rfl).2.trans fq_19
                              replace ex_20 := ex_20.trans (hs.a gq_19 rfl _).1.symm
                              replace hM := hM.tr (hs.mono ?o93)
                              case o93 => decide
                              replace gq_9 := gq_9.S hs
                              replace gq_16 := gq_16.S hs
                              replace gq_19 := gq_19.S hs
                              have f_44 : h_43.2.1 x 71 = (7 : Int32) := ?o94
                              case o94 =>
                                rw [eh_43]
                                exact hx_pi_at _ _ _ _
                              have zo_7 : (7 : Int32).toInt = 7 := ?o95
                              case o95 => decide
                              exact hx_retv hx hb hr hlk hW ⟨⟨jw330_x_68, (7 : Int32), jw279_x_67, fjw330_x_68, f_44, fjw279_x_67, (by first | omega | (refine ⟨?_, ?_⟩ <;> omega))⟩, hT, hM⟩ dX10_looks_506
                          refine lv_iload_n hx hb dX10_looks_354 rfl (lv_at hl 4 rfl) ?_
                          refine lv_aload_n hx hb dX10_looks_355 rfl (lv_at hl 2 rfl) ?_
                          refine hk_getr hx hb hts hC_10 hown hW (gx.S hM) tt_10 48 ?o96 rfl kw_1191 ⟨rfl, rfl, rfl⟩ fq_9 dX10_looks_356 ?_
                          case o96 => decide
                          refine lv_iload_n hx hb dX10_looks_359 rfl (lv_at hl 3 rfl) ?_
                          refine hx_iald hx hb hW hT gq_9 tt_83 rfl ⟨?o97, ?o98⟩ dX10_looks_360 (fun x_45 ex_45 lx_45 ux_45 => ?_)
                          case o97 => omega
                          case o98 => omega
                          refine lv_isub hx hb dX10_looks_361 ?_
                          have rg_46 := i32_r i2
                          have rg_47 := i32_r x_45
                          refine lv_topi (fun x_48 ex_48 => ?_)
                          refine lv_bipush (v := 7) hx hb dX10_looks_362 ?o99 ?_
                          case o99 => decide
                          refine lv_idiv hx hb dX10_looks_364 ?o100 ?_
                          case o100 => decide
                          refine lv_topi (fun x_49 ex_49 => ?_)
                          have zx_49 : -1073741824 ≤ x_49.toInt ∧ x_49.toInt ≤ 1073741824 := ?o101
                          case o101 =>
                            rw [ex_49]
                            refine hx_divb ?o102
                            case o102 => decide
                          refine lv_istore (lv' := [(6, .int x_49), (5, .int jv279_5), (4, .int jv136_4), (0, .ref x), (1, .int i1), (2, .int i2), (3, .int i3)]) hx hb dX10_looks_365 hl ?o103 rfl (fun ls hl => ?_)
                          case o103 => decide
                          refine lv_aload_n hx hb dX10_looks_367 rfl (lv_at hl 3 rfl) ?_
                          refine hx_getn hx hb hts hC_10 hown hW hT (gx.S hM) tt_10 54 ?o104 rfl kw_1197 ⟨rfl, rfl, rfl⟩ dX10_looks_368 (fun q_50 fq_50 gq_50 => ?_)
                          case o104 => decide
                          refine lv_iload_n hx hb dX10_looks_371 rfl (lv_at hl 4 rfl) ?_
                          refine hx_iald hx hb hW hT gq_50 tt_89 rfl ⟨?o105, ?o106⟩ dX10_looks_372 (fun x_51 ex_51 lx_51 ux_51 => ?_)
                          case o105 => omega
                          case o106 => omega
                          refine lv_iload hx hb dX10_looks_373 (lv_at hl 0 rfl) ?_
                          refine lv_imul hx hb dX10_looks_375 ?_
                          refine lv_topi (fun x_52 ex_52 => ?_)
                          have mx_52 : x_51.toInt = 0 → x_52.toInt = 0 := fun z => by rw [ex_52]; exact hx_mul0 z
                          refine lv_iload hx hb dX10_looks_376 (lv_at hl 1 rfl) ?_
                          refine hb_icmp_ge (zx := x_52.toInt) (zy := jv279_5.toInt) (tgt := 393) hx hb rfl rfl dX10_looks_378 ?o107 (fun c_53 => ?_) (fun c_53 => ?_)
                          case o107 => decide
                          · skip
                            refine lv_iload hx hb dX10_looks_393 (lv_at hl 1 rfl) ?_
                            refine lv_istore (lv' := [(7, .int jv279_5), (6, .int x_49), (5, .int jv279_5), (4, .int jv136_4), (0, .ref x), (1, .int i1), (2, .int i2), (3, .int i3)]) hx hb dX10_looks_395 hl ?o108 rfl (fun ls hl => ?_)
                            case o108 => decide
                            refine lv_aload_n hx hb dX10_looks_397 rfl (lv_at hl 4 rfl) ?_
                            refine lv_iload hx hb dX10_looks_398 (lv_at hl 0 rfl) ?_
                            refine lv_aload_n hx hb dX10_looks_400 rfl (lv_at hl 4 rfl) ?_
                            refine hk_geti hx hb hts hC_10 hown hW (gx.S hM) tt_10 67 ?o109 rfl kw_1210 ⟨rfl, rfl, rfl⟩ fjw279_x_67 dX10_looks_401 ?_
                            case o109 => decide
                            refine hb_icmp_le (zx := jv279_5.toInt) (zy := jw279_x_67.toInt) (tgt := 433) hx hb rfl rfl dX10_looks_404 ?o110 (fun c_54 => ?_) (fun c_54 => ?_)
                            case o110 => decide
                            · skip
                              refine lv_iconst (v := 0) hx hb dX10_looks_433 ?o111 ?_
                              case o111 => decide
                              refine hx_puti hx hb hts hC_10 hown hW hT (hx_S.rf (M := [(10, 70)])) (gx.S hM) tt_10 70 ?o112 rfl kw_1213 ⟨rfl, rfl, rfl⟩ rfl (x := (0 : Int32)) ?o113 rfl rfl rfl (List.mem_singleton.mpr rfl) dX10_looks_434 (fun H locs h_55 eh_55 hW hT hs => ?_)
                              case o112 => decide
                              case o113 => decide
                              replace fq_9 := (hs.o (gx.S hM) trivial rfl).2.trans fq_9
                              replace fx_14 := (hs.o (gx.S hM) trivial rfl).1.trans fx_14
                              replace fjw279_x_67 := (hs.o (gx.S hM) trivial rfl).1.trans fjw279_x_67
                              replace fq_16 := (hs.o (gx.S hM) trivial rfl).2.trans fq_16
                              replace fjw330_x_68 := (hs.o (gx.S hM) trivial rfl).1.trans fjw330_x_68
                              replace fjw354_x_69 := (hs.o (gx.S hM) trivial rfl).1.trans fjw354_x_69
                              replace fq_50 := (hs.o (gx.S hM) trivial rfl).2.trans fq_50
                              replace ex_45 := ex_45.trans (hs.a gq_9 rfl _).1.symm
                              replace ex_51 := ex_51.trans (hs.a gq_50 rfl _).1.symm
                              replace hM := hM.tr (hs.mono ?o114)
                              case o114 => decide
                              replace gq_9 := gq_9.S hs
                              replace gq_16 := gq_16.S hs
                              replace gq_50 := gq_50.S hs
                              have f_56 : h_55.2.1 x 70 = (0 : Int32) := ?o115
                              case o115 =>
                                rw [eh_55]
                                exact hx_pi_at _ _ _ _
                              have zk_0 : (0 : Int32).toInt = 0 := ?o116
                              case o116 => decide
                              refine join437 (0 : Int32) _ _ hL1 h_55 ?o117 ?o118  ls hW hT hM f_56 fq_9 fx_14 fjw279_x_67 fq_16 fjw330_x_68 fjw354_x_69 gq_9 gq_16 (lv_sub hl [2, 3, 4, 5, 6, 7] rfl)
                              case o117 => decide
                              case o118 => decide
                            · skip
                              refine lv_iload hx hb dX10_looks_407 (lv_at hl 0 rfl) ?_
                              refine lv_aload_n hx hb dX10_looks_409 rfl (lv_at hl 4 rfl) ?_
                              refine hk_geti hx hb hts hC_10 hown hW (gx.S hM) tt_10 67 ?o119 rfl kw_1210 ⟨rfl, rfl, rfl⟩ fjw279_x_67 dX10_looks_410 ?_
                              case o119 => decide
                              refine lv_isub hx hb dX10_looks_413 ?_
                              have rg_57 := i32_r jv279_5
                              have rg_58 := i32_r jw279_x_67
                              refine lv_topi (fun x_59 ex_59 => ?_)
                              have zx_59 : x_59.toInt = jv279_5.toInt - jw279_x_67.toInt := ?o120
                              case o120 =>
                                rw [ex_59]
                                refine i32_sub rfl rfl ?o121 ?o122
                                case o121 => omega
                                case o122 => omega
                              refine lv_aload_n hx hb dX10_looks_414 rfl (lv_at hl 4 rfl) ?_
                              refine hk_getr hx hb hts hC_10 hown hW (gx.S hM) tt_10 54 ?o123 rfl kw_1197 ⟨rfl, rfl, rfl⟩ fq_50 dX10_looks_415 ?_
                              case o123 => decide
                              refine lv_iload_n hx hb dX10_looks_418 rfl (lv_at hl 5 rfl) ?_
                              refine hx_iald hx hb hW hT gq_50 tt_89 rfl ⟨?o124, ?o125⟩ dX10_looks_419 (fun x_60 ex_60 lx_60 ux_60 => ?_)
                              case o124 => omega
                              case o125 => omega
                              obtain rfl : x_51 = x_60 := ex_51.trans ex_60.symm
                              refine lv_iadd hx hb dX10_looks_420 ?_
                              have rg_61 := i32_r x_59
                              have rg_62 := i32_r x_51
                              refine lv_topi (fun x_63 ex_63 => ?_)
                              have zx_63 : x_63.toInt = x_59.toInt + x_51.toInt := ?o126
                              case o126 =>
                                rw [ex_63]
                                refine i32_add rfl rfl ?o127 ?o128
                                case o127 => omega
                                case o128 => omega
                              refine lv_iconst (v := 1) hx hb dX10_looks_421 ?o129 ?_
                              case o129 => decide
                              refine lv_isub hx hb dX10_looks_422 ?_
                              have rg_64 := i32_r x_63
                              refine lv_topi (fun x_65 ex_65 => ?_)
                              have zx_65 : x_65.toInt = x_63.toInt - 1 := ?o130
                              case o130 =>
                                rw [ex_65]
                                refine i32_sub rfl ?o131 ?o132 ?o133
                                case o131 => decide
                                case o132 => omega
                                case o133 => omega
                              refine lv_aload_n hx hb dX10_looks_423 rfl (lv_at hl 4 rfl) ?_
                              refine hk_getr hx hb hts hC_10 hown hW (gx.S hM) tt_10 54 ?o134 rfl kw_1197 ⟨rfl, rfl, rfl⟩ fq_50 dX10_looks_424 ?_
                              case o134 => decide
                              refine lv_iload_n hx hb dX10_looks_427 rfl (lv_at hl 5 rfl) ?_
                              refine hx_iald hx hb hW hT gq_50 tt_89 rfl ⟨?o135, ?o136⟩ dX10_looks_428 (fun x_66 ex_66 lx_66 ux_66 => ?_)
                              case o135 => omega
                              case o136 => omega
                              obtain rfl : x_51 = x_66 := ex_51.trans ex_66.symm
                              refine lv_idiv hx hb dX10_looks_429 (hx_ne0 ?o137) ?_
                              case o137 => omega
                              refine lv_topi (fun x_67 ex_67 => ?_)
                              refine lv_goto (tgt := 434) hx hb dX10_looks_430 ?o138 ?_
                              case o138 => decide
                              refine hx_puti hx hb hts hC_10 hown hW hT (hx_S.rf (M := [(10, 70)])) (gx.S hM) tt_10 70 ?o139 rfl kw_1213 ⟨rfl, rfl, rfl⟩ rfl (x := x_67) (i32_r _) rfl rfl rfl (List.mem_singleton.mpr rfl) dX10_looks_434 (fun H locs h_68 eh_68 hW hT hs => ?_)
                              case o139 => decide
                              replace fq_9 := (hs.o (gx.S hM) trivial rfl).2.trans fq_9
                              replace fx_14 := (hs.o (gx.S hM) trivial rfl).1.trans fx_14
                              replace fjw279_x_67 := (hs.o (gx.S hM) trivial rfl).1.trans fjw279_x_67
                              replace fq_16 := (hs.o (gx.S hM) trivial rfl).2.trans fq_16
                              replace fjw330_x_68 := (hs.o (gx.S hM) trivial rfl).1.trans fjw330_x_68
                              replace fjw354_x_69 := (hs.o (gx.S hM) trivial rfl).1.trans fjw354_x_69
                              replace fq_50 := (hs.o (gx.S hM) trivial rfl).2.trans fq_50
                              replace ex_45 := ex_45.trans (hs.a gq_9 rfl _).1.symm
                              replace ex_51 := ex_51.trans (hs.a gq_50 rfl _).1.symm
                              replace hM := hM.tr (hs.mono ?o140)
                              case o140 => decide
                              replace gq_9 := gq_9.S hs
                              replace gq_16 := gq_16.S hs
                              replace gq_50 := gq_50.S hs
                              have f_69 : h_68.2.1 x 70 = x_67 := ?o141
                              case o141 =>
                                rw [eh_68]
                                exact hx_pi_at _ _ _ _
                              exact join437 x_67 _ _ hL1 h_68 (i32_r _).1 (i32_r _).2  ls hW hT hM f_69 fq_9 fx_14 fjw279_x_67 fq_16 fjw330_x_68 fjw354_x_69 gq_9 gq_16 (lv_sub hl [2, 3, 4, 5, 6, 7] rfl)
                          · skip
                            refine lv_aload_n hx hb dX10_looks_381 rfl (lv_at hl 3 rfl) ?_
                            refine hk_getr hx hb hts hC_10 hown hW (gx.S hM) tt_10 54 ?o142 rfl kw_1197 ⟨rfl, rfl, rfl⟩ fq_50 dX10_looks_382 ?_
                            case o142 => decide
                            refine lv_iload_n hx hb dX10_looks_385 rfl (lv_at hl 4 rfl) ?_
                            refine hx_iald hx hb hW hT gq_50 tt_89 rfl ⟨?o143, ?o144⟩ dX10_looks_386 (fun x_70 ex_70 lx_70 ux_70 => ?_)
                            case o143 => omega
                            case o144 => omega
                            obtain rfl : x_51 = x_70 := ex_51.trans ex_70.symm
                            refine lv_iload hx hb dX10_looks_387 (lv_at hl 0 rfl) ?_
                            refine lv_imul hx hb dX10_looks_389 ?_
                            refine lv_topi (fun x_71 ex_71 => ?_)
                            have mx_71 : x_51.toInt = 0 → x_71.toInt = 0 := fun z => by rw [ex_71]; exact hx_mul0 z
                            refine lv_goto (tgt := 395) hx hb dX10_looks_390 ?o145 ?_
                            case o145 => decide
                            refine lv_istore (lv' := [(7, .int x_71), (6, .int x_49), (5, .int jv279_5), (4, .int jv136_4), (0, .ref x), (1, .int i1), (2, .int i2), (3, .int i3)]) hx hb dX10_looks_395 hl ?o146 rfl (fun ls hl => ?_)
                            case o146 => decide
                            refine lv_aload_n hx hb dX10_looks_397 rfl (lv_at hl 4 rfl) ?_
                            refine lv_iload hx hb dX10_looks_398 (lv_at hl 0 rfl) ?_
                            refine lv_aload_n hx hb dX10_looks_400 rfl (lv_at hl 4 rfl) ?_
                            refine hk_geti hx hb hts hC_10 hown hW (gx.S hM) tt_10 67 ?o147 rfl kw_1210 ⟨rfl, rfl, rfl⟩ fjw279_x_67 dX10_looks_401 ?_
                            case o147 => decide
                            refine hb_icmp_le (zx := x_71.toInt) (zy := jw279_x_67.toInt) (tgt := 433) hx hb rfl rfl dX10_looks_404 ?o148 (fun c_72 => ?_) (fun c_72 => ?_)
                            case o148 => decide
                            · skip
                              refine lv_iconst (v := 0) hx hb dX10_looks_433 ?o149 ?_
                              case o149 => decide
                              refine hx_puti hx hb hts hC_10 hown hW hT (hx_S.rf (M := [(10, 70)])) (gx.S hM) tt_10 70 ?o150 rfl kw_1213 ⟨rfl, rfl, rfl⟩ rfl (x := (0 : Int32)) ?o151 rfl rfl rfl (List.mem_singleton.mpr rfl) dX10_looks_434 (fun H locs h_73 eh_73 hW hT hs => ?_)
                              case o150 => decide
                              case o151 => decide
                              replace fq_9 := (hs.o (gx.S hM) trivial rfl).2.trans fq_9
                              replace fx_14 := (hs.o (gx.S hM) trivial rfl).1.trans fx_14
                              replace fjw279_x_67 := (hs.o (gx.S hM) trivial rfl).1.trans fjw279_x_67
                              replace fq_16 := (hs.o (gx.S hM) trivial rfl).2.trans fq_16
                              replace fjw330_x_68 := (hs.o (gx.S hM) trivial rfl).1.trans fjw330_x_68
                              replace fjw354_x_69 := (hs.o (gx.S hM) trivial rfl).1.trans fjw354_x_69
                              replace fq_50 := (hs.o (gx.S hM) trivial rfl).2.trans fq_50
                              replace ex_45 := ex_45.trans (hs.a gq_9 rfl _).1.symm
                              replace ex_51 := ex_51.trans (hs.a gq_50 rfl _).1.symm
                              replace hM := hM.tr (hs.mono ?o152)
                              case o152 => decide
                              replace gq_9 := gq_9.S hs
                              replace gq_16 := gq_16.S hs
                              replace gq_50 := gq_50.S hs
                              have f_74 : h_73.2.1 x 70 = (0 : Int32) := ?o153
                              case o153 =>
                                rw [eh_73]
                                exact hx_pi_at _ _ _ _
                              have zk_0 : (0 : Int32).toInt = 0 := ?o154
                              case o154 => decide
                              refine join437 (0 : Int32) _ _ hL1 h_73 ?o155 ?o156  ls hW hT hM f_74 fq_9 fx_14 fjw279_x_67 fq_16 fjw330_x_68 fjw354_x_69 gq_9 gq_16 (lv_sub hl [2, 3, 4, 5, 6, 7] rfl)
                              case o155 => decide
                              case o156 => decide
                            · skip
                              refine lv_iload hx hb dX10_looks_407 (lv_at hl 0 rfl) ?_
                              refine lv_aload_n hx hb dX10_looks_409 rfl (lv_at hl 4 rfl) ?_
                              refine hk_geti hx hb hts hC_10 hown hW (gx.S hM) tt_10 67 ?o157 rfl kw_1210 ⟨rfl, rfl, rfl⟩ fjw279_x_67 dX10_looks_410 ?_
                              case o157 => decide
                              refine lv_isub hx hb dX10_looks_413 ?_
                              have rg_75 := i32_r x_71
                              have rg_76 := i32_r jw279_x_67
                              refine lv_topi (fun x_77 ex_77 => ?_)
                              have zx_77 : x_77.toInt = x_71.toInt - jw279_x_67.toInt := ?o158
                              case o158 =>
                                rw [ex_77]
                                refine i32_sub rfl rfl ?o159 ?o160
                                case o159 => omega
                                case o160 => omega
                              refine lv_aload_n hx hb dX10_looks_414 rfl (lv_at hl 4 rfl) ?_
                              refine hk_getr hx hb hts hC_10 hown hW (gx.S hM) tt_10 54 ?o161 rfl kw_1197 ⟨rfl, rfl, rfl⟩ fq_50 dX10_looks_415 ?_
                              case o161 => decide
                              refine lv_iload_n hx hb dX10_looks_418 rfl (lv_at hl 5 rfl) ?_
                              refine hx_iald hx hb hW hT gq_50 tt_89 rfl ⟨?o162, ?o163⟩ dX10_looks_419 (fun x_78 ex_78 lx_78 ux_78 => ?_)
                              case o162 => omega
                              case o163 => omega
                              obtain rfl : x_51 = x_78 := ex_51.trans ex_78.symm
                              refine lv_iadd hx hb dX10_looks_420 ?_
                              have rg_79 := i32_r x_77
                              have rg_80 := i32_r x_51
                              refine lv_topi (fun x_81 ex_81 => ?_)
                              refine lv_iconst (v := 1) hx hb dX10_looks_421 ?o164 ?_
                              case o164 => decide
                              refine lv_isub hx hb dX10_looks_422 ?_
                              have rg_82 := i32_r x_81
                              refine lv_topi (fun x_83 ex_83 => ?_)
                              refine lv_aload_n hx hb dX10_looks_423 rfl (lv_at hl 4 rfl) ?_
                              refine hk_getr hx hb hts hC_10 hown hW (gx.S hM) tt_10 54 ?o165 rfl kw_1197 ⟨rfl, rfl, rfl⟩ fq_50 dX10_looks_424 ?_
                              case o165 => decide
                              refine lv_iload_n hx hb dX10_looks_427 rfl (lv_at hl 5 rfl) ?_
                              refine hx_iald hx hb hW hT gq_50 tt_89 rfl ⟨?o166, ?o167⟩ dX10_looks_428 (fun x_84 ex_84 lx_84 ux_84 => ?_)
                              case o166 => omega
                              case o167 => omega
                              obtain rfl : x_51 = x_84 := ex_51.trans ex_84.symm
                              refine lv_idiv hx hb dX10_looks_429 (hx_ne0 ?o168) ?_
                              case o168 => omega
                              refine lv_topi (fun x_85 ex_85 => ?_)
                              refine lv_goto (tgt := 434) hx hb dX10_looks_430 ?o169 ?_
                              case o169 => decide
                              refine hx_puti hx hb hts hC_10 hown hW hT (hx_S.rf (M := [(10, 70)])) (gx.S hM) tt_10 70 ?o170 rfl kw_1213 ⟨rfl, rfl, rfl⟩ rfl (x := x_85) (i32_r _) rfl rfl rfl (List.mem_singleton.mpr rfl) dX10_looks_434 (fun H locs h_86 eh_86 hW hT hs => ?_)
                              case o170 => decide
                              replace fq_9 := (hs.o (gx.S hM) trivial rfl).2.trans fq_9
                              replace fx_14 := (hs.o (gx.S hM) trivial rfl).1.trans fx_14
                              replace fjw279_x_67 := (hs.o (gx.S hM) trivial rfl).1.trans fjw279_x_67
                              replace fq_16 := (hs.o (gx.S hM) trivial rfl).2.trans fq_16
                              replace fjw330_x_68 := (hs.o (gx.S hM) trivial rfl).1.trans fjw330_x_68
                              replace fjw354_x_69 := (hs.o (gx.S hM) trivial rfl).1.trans fjw354_x_69
                              replace fq_50 := (hs.o (gx.S hM) trivial rfl).2.trans fq_50
                              replace ex_45 := ex_45.trans (hs.a gq_9 rfl _).1.symm
                              replace ex_51 := ex_51.trans (hs.a gq_50 rfl _).1.symm
                              replace hM := hM.tr (hs.mono ?o171)
                              case o171 => decide
                              replace gq_9 := gq_9.S hs
                              replace gq_16 := gq_16.S hs
                              replace gq_50 := gq_50.S hs
                              have f_87 : h_86.2.1 x 70 = x_85 := ?o172
                              case o172 =>
                                rw [eh_86]
                                exact hx_pi_at _ _ _ _
                              exact join437 x_85 _ _ hL1 h_86 (i32_r _).1 (i32_r _).2  ls hW hT hM f_87 fq_9 fx_14 fjw279_x_67 fq_16 fjw330_x_68 fjw354_x_69 gq_9 gq_16 (lv_sub hl [2, 3, 4, 5, 6, 7] rfl)
                        refine lv_aload_n hx hb dX10_looks_330 rfl (lv_at hl 2 rfl) ?_
                        refine lv_aload_n hx hb dX10_looks_331 rfl (lv_at hl 2 rfl) ?_
                        refine hk_geti hx hb hts hC_10 hown hW (gx.S hM) tt_10 67 ?o173 rfl kw_1210 ⟨rfl, rfl, rfl⟩ fjw279_x_67 dX10_looks_332 ?_
                        case o173 => decide
                        refine lv_iload hx hb dX10_looks_335 (lv_at hl 0 rfl) ?_
                        refine hb_icmp_le (zx := jw279_x_67.toInt) (zy := jv279_5.toInt) (tgt := 350) hx hb rfl rfl dX10_looks_337 ?o174 (fun c_88 => ?_) (fun c_88 => ?_)
                        case o174 => decide
                        · skip
                          refine lv_iconst (v := 0) hx hb dX10_looks_350 ?o175 ?_
                          case o175 => decide
                          refine hx_puti hx hb hts hC_10 hown hW hT (hx_S.rf (M := [(10, 69)])) (gx.S hM) tt_10 69 ?o176 rfl kw_1212 ⟨rfl, rfl, rfl⟩ rfl (x := (0 : Int32)) ?o177 rfl rfl rfl (List.mem_singleton.mpr rfl) dX10_looks_351 (fun H locs h_89 eh_89 hW hT hs => ?_)
                          case o176 => decide
                          case o177 => decide
                          replace f_8 := (hs.o (gx.S hM) trivial rfl).1.trans f_8
                          replace fq_9 := (hs.o (gx.S hM) trivial rfl).2.trans fq_9
                          replace fx_14 := (hs.o (gx.S hM) trivial rfl).1.trans fx_14
                          replace fjw279_x_67 := (hs.o (gx.S hM) trivial rfl).1.trans fjw279_x_67
                          replace fq_16 := (hs.o (gx.S hM) trivial rfl).2.trans fq_16
                          replace fjw330_x_68 := (hs.o (gx.S hM) trivial rfl).1.trans fjw330_x_68
                          replace hM := hM.tr (hs.mono ?o178)
                          case o178 => decide
                          replace gq_9 := gq_9.S hs
                          replace gq_16 := gq_16.S hs
                          have f_90 : h_89.2.1 x 69 = (0 : Int32) := ?o179
                          case o179 =>
                            rw [eh_89]
                            exact hx_pi_at _ _ _ _
                          have zk_0 : (0 : Int32).toInt = 0 := ?o180
                          case o180 => decide
                          refine join354 (0 : Int32) _ _ hL1 h_89 ?o181 ?o182  ls hW hT hM f_90 f_8 fq_9 fx_14 fjw279_x_67 fq_16 fjw330_x_68 gq_9 gq_16 (lv_sub hl [0, 1, 2, 3, 4, 5] rfl)
                          case o181 => decide
                          case o182 => decide
                        · skip
                          refine lv_aload_n hx hb dX10_looks_340 rfl (lv_at hl 2 rfl) ?_
                          refine hk_geti hx hb hts hC_10 hown hW (gx.S hM) tt_10 67 ?o183 rfl kw_1210 ⟨rfl, rfl, rfl⟩ fjw279_x_67 dX10_looks_341 ?_
                          case o183 => decide
                          refine lv_iload hx hb dX10_looks_344 (lv_at hl 0 rfl) ?_
                          refine lv_isub hx hb dX10_looks_346 ?_
                          have rg_91 := i32_r jw279_x_67
                          have rg_92 := i32_r jv279_5
                          refine lv_topi (fun x_93 ex_93 => ?_)
                          have zx_93 : x_93.toInt = jw279_x_67.toInt - jv279_5.toInt := ?o184
                          case o184 =>
                            rw [ex_93]
                            refine i32_sub rfl rfl ?o185 ?o186
                            case o185 => omega
                            case o186 => omega
                          refine lv_goto (tgt := 351) hx hb dX10_looks_347 ?o187 ?_
                          case o187 => decide
                          refine hx_puti hx hb hts hC_10 hown hW hT (hx_S.rf (M := [(10, 69)])) (gx.S hM) tt_10 69 ?o188 rfl kw_1212 ⟨rfl, rfl, rfl⟩ rfl (x := x_93) (i32_r _) rfl rfl rfl (List.mem_singleton.mpr rfl) dX10_looks_351 (fun H locs h_94 eh_94 hW hT hs => ?_)
                          case o188 => decide
                          replace f_8 := (hs.o (gx.S hM) trivial rfl).1.trans f_8
                          replace fq_9 := (hs.o (gx.S hM) trivial rfl).2.trans fq_9
                          replace fx_14 := (hs.o (gx.S hM) trivial rfl).1.trans fx_14
                          replace fjw279_x_67 := (hs.o (gx.S hM) trivial rfl).1.trans fjw279_x_67
                          replace fq_16 := (hs.o (gx.S hM) trivial rfl).2.trans fq_16
                          replace fjw330_x_68 := (hs.o (gx.S hM) trivial rfl).1.trans fjw330_x_68
                          replace hM := hM.tr (hs.mono ?o189)
                          case o189 => decide
                          replace gq_9 := gq_9.S hs
                          replace gq_16 := gq_16.S hs
                          have f_95 : h_94.2.1 x 69 = x_93 := ?o190
                          case o190 =>
                            rw [eh_94]
                            exact hx_pi_at _ _ _ _
                          exact join354 x_93 _ _ hL1 h_94 (i32_r _).1 (i32_r _).2  ls hW hT hM f_95 f_8 fq_9 fx_14 fjw279_x_67 fq_16 fjw330_x_68 gq_9 gq_16 (lv_sub hl [0, 1, 2, 3, 4, 5] rfl)
                      refine lv_aload_n hx hb dX10_looks_306 rfl (lv_at hl 2 rfl) ?_
                      refine lv_iload hx hb dX10_looks_307 (lv_at hl 0 rfl) ?_
                      refine lv_aload_n hx hb dX10_looks_309 rfl (lv_at hl 2 rfl) ?_
                      refine hk_geti hx hb hts hC_10 hown hW (gx.S hM) tt_10 67 ?o191 rfl kw_1210 ⟨rfl, rfl, rfl⟩ fjw279_x_67 dX10_looks_310 ?_
                      case o191 => decide
                      refine hb_icmp_le (zx := jv279_5.toInt) (zy := jw279_x_67.toInt) (tgt := 326) hx hb rfl rfl dX10_looks_313 ?o192 (fun c_96 => ?_) (fun c_96 => ?_)
                      case o192 => decide
                      · skip
                        refine lv_iconst (v := 0) hx hb dX10_looks_326 ?o193 ?_
                        case o193 => decide
                        refine hx_puti hx hb hts hC_10 hown hW hT (hx_S.rf (M := [(10, 68)])) (gx.S hM) tt_10 68 ?o194 rfl kw_1211 ⟨rfl, rfl, rfl⟩ rfl (x := (0 : Int32)) ?o195 rfl rfl rfl (List.mem_singleton.mpr rfl) dX10_looks_327 (fun H locs h_97 eh_97 hW hT hs => ?_)
                        case o194 => decide
                        case o195 => decide
                        replace f_6 := (hs.o (gx.S hM) trivial rfl).1.trans f_6
                        replace f_8 := (hs.o (gx.S hM) trivial rfl).1.trans f_8
                        replace fq_9 := (hs.o (gx.S hM) trivial rfl).2.trans fq_9
                        replace fx_14 := (hs.o (gx.S hM) trivial rfl).1.trans fx_14
                        replace fjw279_x_67 := (hs.o (gx.S hM) trivial rfl).1.trans fjw279_x_67
                        replace fq_16 := (hs.o (gx.S hM) trivial rfl).2.trans fq_16
                        replace ex_17 := ex_17.trans (hs.a gq_16 rfl _).1.symm
                        replace hM := hM.tr (hs.mono ?o196)
                        case o196 => decide
                        replace gq_9 := gq_9.S hs
                        replace gq_16 := gq_16.S hs
                        have f_98 : h_97.2.1 x 68 = (0 : Int32) := ?o197
                        case o197 =>
                          rw [eh_97]
                          exact hx_pi_at _ _ _ _
                        have zk_0 : (0 : Int32).toInt = 0 := ?o198
                        case o198 => decide
                        refine join330 (0 : Int32) _ _ hL1 h_97 ?o199 ?o200  ls hW hT hM f_98 f_6 f_8 fq_9 fx_14 fjw279_x_67 fq_16 gq_9 gq_16 (lv_sub hl [0, 1, 2, 3, 4, 5] rfl)
                        case o199 => decide
                        case o200 => decide
                      · skip
                        refine lv_iload hx hb dX10_looks_316 (lv_at hl 0 rfl) ?_
                        refine lv_aload_n hx hb dX10_looks_318 rfl (lv_at hl 2 rfl) ?_
                        refine hk_geti hx hb hts hC_10 hown hW (gx.S hM) tt_10 67 ?o201 rfl kw_1210 ⟨rfl, rfl, rfl⟩ fjw279_x_67 dX10_looks_319 ?_
                        case o201 => decide
                        refine lv_isub hx hb dX10_looks_322 ?_
                        have rg_99 := i32_r jv279_5
                        have rg_100 := i32_r jw279_x_67
                        refine lv_topi (fun x_101 ex_101 => ?_)
                        have zx_101 : x_101.toInt = jv279_5.toInt - jw279_x_67.toInt := ?o202
                        case o202 =>
                          rw [ex_101]
                          refine i32_sub rfl rfl ?o203 ?o204
                          case o203 => omega
                          case o204 => omega
                        refine lv_goto (tgt := 327) hx hb dX10_looks_323 ?o205 ?_
                        case o205 => decide
                        refine hx_puti hx hb hts hC_10 hown hW hT (hx_S.rf (M := [(10, 68)])) (gx.S hM) tt_10 68 ?o206 rfl kw_1211 ⟨rfl, rfl, rfl⟩ rfl (x := x_101) ⟨?o207, ?o208⟩ rfl rfl rfl (List.mem_singleton.mpr rfl) dX10_looks_327 (fun H locs h_102 eh_102 hW hT hs => ?_)
                        case o206 => decide
                        case o207 => omega
                        case o208 => omega
                        replace f_6 := (hs.o (gx.S hM) trivial rfl).1.trans f_6
                        replace f_8 := (hs.o (gx.S hM) trivial rfl).1.trans f_8
                        replace fq_9 := (hs.o (gx.S hM) trivial rfl).2.trans fq_9
                        replace fx_14 := (hs.o (gx.S hM) trivial rfl).1.trans fx_14
                        replace fjw279_x_67 := (hs.o (gx.S hM) trivial rfl).1.trans fjw279_x_67
                        replace fq_16 := (hs.o (gx.S hM) trivial rfl).2.trans fq_16
                        replace ex_17 := ex_17.trans (hs.a gq_16 rfl _).1.symm
                        replace hM := hM.tr (hs.mono ?o209)
                        case o209 => decide
                        replace gq_9 := gq_9.S hs
                        replace gq_16 := gq_16.S hs
                        have f_103 : h_102.2.1 x 68 = x_101 := ?o210
                        case o210 =>
                          rw [eh_102]
                          exact hx_pi_at _ _ _ _
                        refine join330 x_101 _ _ hL1 h_102 ?o211 ?o212  ls hW hT hM f_103 f_6 f_8 fq_9 fx_14 fjw279_x_67 fq_16 gq_9 gq_16 (lv_sub hl [0, 1, 2, 3, 4, 5] rfl)
                        case o211 => omega
                        case o212 => omega
                    · skip
                      refine lv_aload_n hx hb dX10_looks_289 rfl (lv_at hl 2 rfl) ?_
                      refine hk_getr hx hb hts hC_10 hown hW (gx.S hM) tt_10 50 ?o213 rfl kw_1193 ⟨rfl, rfl, rfl⟩ fq_16 dX10_looks_290 ?_
                      case o213 => decide
                      refine lv_iload_n hx hb dX10_looks_293 rfl (lv_at hl 3 rfl) ?_
                      refine hx_iald hx hb hW hT gq_16 tt_85 rfl ⟨?o214, ?o215⟩ dX10_looks_294 (fun x_104 ex_104 lx_104 ux_104 => ?_)
                      case o214 => omega
                      case o215 => omega
                      obtain rfl : x_17 = x_104 := ex_17.trans ex_104.symm
                      refine lv_iload_n hx hb dX10_looks_295 rfl (lv_at hl 4 rfl) ?_
                      refine hb_icmp_gt (zx := x_17.toInt) (zy := i2.toInt) (tgt := 306) hx hb rfl rfl dX10_looks_296 ?o216 (fun c_105 => ?_) (fun c_105 => ?_)
                      case o216 => decide
                      · skip
                        have join330 : ∀ (jw330_x_68 : Int32) (H : Heap) (locs : List Loc) (hL1 : List Nat) (hl1 : hx_h), 0 ≤ jw330_x_68.toInt → jw330_x_68.toInt ≤ 610000 → ∀ (ls : Array Slot), hx_W T_tb (P_ty dA) (dC, dI) vwCl (hx_A L sz) s.heap hL1 hl1 s H locs → hx_T T_tb hL1 hl1 → hx_S T_tb [(10, 67), (10, 68), (10, 69), (10, 70), (10, 71)] L h hL1 hl1 → hl1.2.1 x 68 = jw330_x_68 → hl1.2.1 x 69 = (0 : Int32) → hl1.2.1 x 70 = (0 : Int32) → hl1.2.2 x 48 = some q_9 → hl1.2.1 x 59 = x_14 → hl1.2.1 x 67 = jw279_x_67 → hl1.2.2 x 50 = some q_16 → hx_g hL1 hl1 q_9 83 → hx_g hL1 hl1 q_16 85 → lv_has ls 9 [(5, .int jv279_5), (4, .int jv136_4), (0, .ref x), (1, .int i1), (2, .int i2), (3, .int i3)] → W p l e ({ frames := 1, cells := 0, slots := 0, locals := 22 }) s m ([.ref x, .int i1, .int i2, .int i3] : List Value).toArray below meth c H locs 0 0 (MQ below (va_Qv (fun (u : List Nat × hx_h) => (∃ (rs1 : Int32) (st1 : Int32) (pd1 : Int32), u.2.2.1 x 68 = rs1 ∧ u.2.2.1 x 71 = st1 ∧ u.2.2.1 x 67 = pd1 ∧ (4 ≤ st1.toInt ∧ st1.toInt ≤ 6 → 1 ≤ rs1.toInt)) ∧ hx_T T_tb u.1 u.2 ∧ hx_S T_tb [(10, 67), (10, 68), (10, 69), (10, 70), (10, 71)] L h u.1 u.2) (hx_E T_tb (P_ty dA) (dC, dI) vwCl (hx_A L sz)) (hx_A L sz)) ([.ref x, .int i1, .int i2, .int i3] : List Value).toArray s 0 0 (hx_A L sz)) (F0 m 330 ls []) := by
                          intro jw330_x_68 H locs hL1 hl1 bljw330_x_68 bujw330_x_68  ls hW hT hM fjw330_x_68 f_6 f_8 fq_9 fx_14 fjw279_x_67 fq_16 gq_9 gq_16 hl
                          have join354 : ∀ (jw354_x_69 : Int32) (H : Heap) (locs : List Loc) (hL1 : List Nat) (hl1 : hx_h), -2147483648 ≤ jw354_x_69.toInt → jw354_x_69.toInt ≤ 2147483647 → ∀ (ls : Array Slot), hx_W T_tb (P_ty dA) (dC, dI) vwCl (hx_A L sz) s.heap hL1 hl1 s H locs → hx_T T_tb hL1 hl1 → hx_S T_tb [(10, 67), (10, 68), (10, 69), (10, 70), (10, 71)] L h hL1 hl1 → hl1.2.1 x 69 = jw354_x_69 → hl1.2.1 x 70 = (0 : Int32) → hl1.2.2 x 48 = some q_9 → hl1.2.1 x 59 = x_14 → hl1.2.1 x 67 = jw279_x_67 → hl1.2.2 x 50 = some q_16 → hl1.2.1 x 68 = jw330_x_68 → hx_g hL1 hl1 q_9 83 → hx_g hL1 hl1 q_16 85 → lv_has ls 9 [(5, .int jv279_5), (4, .int jv136_4), (0, .ref x), (1, .int i1), (2, .int i2), (3, .int i3)] → W p l e ({ frames := 1, cells := 0, slots := 0, locals := 22 }) s m ([.ref x, .int i1, .int i2, .int i3] : List Value).toArray below meth c H locs 0 0 (MQ below (va_Qv (fun (u : List Nat × hx_h) => (∃ (rs1 : Int32) (st1 : Int32) (pd1 : Int32), u.2.2.1 x 68 = rs1 ∧ u.2.2.1 x 71 = st1 ∧ u.2.2.1 x 67 = pd1 ∧ (4 ≤ st1.toInt ∧ st1.toInt ≤ 6 → 1 ≤ rs1.toInt)) ∧ hx_T T_tb u.1 u.2 ∧ hx_S T_tb [(10, 67), (10, 68), (10, 69), (10, 70), (10, 71)] L h u.1 u.2) (hx_E T_tb (P_ty dA) (dC, dI) vwCl (hx_A L sz)) (hx_A L sz)) ([.ref x, .int i1, .int i2, .int i3] : List Value).toArray s 0 0 (hx_A L sz)) (F0 m 354 ls []) := by
                            intro jw354_x_69 H locs hL1 hl1 bljw354_x_69 bujw354_x_69  ls hW hT hM fjw354_x_69 f_8 fq_9 fx_14 fjw279_x_67 fq_16 fjw330_x_68 gq_9 gq_16 hl
                            have join437 : ∀ (jw437_x_70 : Int32) (H : Heap) (locs : List Loc) (hL1 : List Nat) (hl1 : hx_h), -2147483648 ≤ jw437_x_70.toInt → jw437_x_70.toInt ≤ 2147483647 → ∀ (ls : Array Slot), hx_W T_tb (P_ty dA) (dC, dI) vwCl (hx_A L sz) s.heap hL1 hl1 s H locs → hx_T T_tb hL1 hl1 → hx_S T_tb [(10, 67), (10, 68), (10, 69), (10, 70), (10, 71)] L h hL1 hl1 → hl1.2.1 x 70 = jw437_x_70 → hl1.2.2 x 48 = some q_9 → hl1.2.1 x 59 = x_14 → hl1.2.1 x 67 = jw279_x_67 → hl1.2.2 x 50 = some q_16 → hl1.2.1 x 68 = jw330_x_68 → hl1.2.1 x 69 = jw354_x_69 → hx_g hL1 hl1 q_9 83 → hx_g hL1 hl1 q_16 85 → lv_has ls 9 [(5, .int jv279_5), (4, .int jv136_4), (0, .ref x), (1, .int i1), (2, .int i2), (3, .int i3)] → W p l e ({ frames := 1, cells := 0, slots := 0, locals := 22 }) s m ([.ref x, .int i1, .int i2, .int i3] : List Value).toArray below meth c H locs 0 0 (MQ below (va_Qv (fun (u : List Nat × hx_h) => (∃ (rs1 : Int32) (st1 : Int32) (pd1 : Int32), u.2.2.1 x 68 = rs1 ∧ u.2.2.1 x 71 = st1 ∧ u.2.2.1 x 67 = pd1 ∧ (4 ≤ st1.toInt ∧ st1.toInt ≤ 6 → 1 ≤ rs1.toInt)) ∧ hx_T T_tb u.1 u.2 ∧ hx_S T_tb [(10, 67), (10, 68), (10, 69), (10, 70), (10, 71)] L h u.1 u.2) (hx_E T_tb (P_ty dA) (dC, dI) vwCl (hx_A L sz)) (hx_A L sz)) ([.ref x, .int i1, .int i2, .int i3] : List Value).toArray s 0 0 (hx_A L sz)) (F0 m 437 ls []) := by
                              intro jw437_x_70 H locs hL1 hl1 bljw437_x_70 bujw437_x_70  ls hW hT hM fjw437_x_70 fq_9 fx_14 fjw279_x_67 fq_16 fjw330_x_68 fjw354_x_69 gq_9 gq_16 hl
                              refine lv_aload_n hx hb dX10_looks_437 rfl (lv_at hl 2 rfl) ?_
                              refine lv_aload_n hx hb dX10_looks_438 rfl (lv_at hl 2 rfl) ?_
                              refine hx_getn hx hb hts hC_10 hown hW hT (gx.S hM) tt_10 44 ?o217 rfl kw_1187 ⟨rfl, rfl, rfl⟩ dX10_looks_439 (fun q_106 fq_106 gq_106 => ?_)
                              case o217 => decide
                              refine lv_iload_n hx hb dX10_looks_442 rfl (lv_at hl 3 rfl) ?_
                              refine hx_iald hx hb hW hT gq_106 tt_79 rfl ⟨?o218, ?o219⟩ dX10_looks_443 (fun x_107 ex_107 lx_107 ux_107 => ?_)
                              case o218 => omega
                              case o219 => omega
                              refine lv_iconst (v := 4) hx hb dX10_looks_444 ?o220 ?_
                              case o220 => decide
                              have zc_4 : (4 : Int32).toInt = 4 := ?o221
                              case o221 => decide
                              refine hx_goi (hx_runV (As := [.int x_107, .int (4 : Int32)]) (rest := []) ⟨hx, hb, hml, hown, hts⟩ hW (gx.S hM) tt_10 (T := TX10) (N := 98) rfl (t_X10_ruleOf l dC dI dA hL1 hl1 H.size x x_107 (4 : Int32) hT (gx.S hM) ⟨?o222, ?o223⟩ ?o224) (cwV 2 hts (hx_gV kw_1533 kw_1530 kw_1532 kw_66 kw_103) rfl rfl rfl (by decide +kernel) ⟨Nat.le_of_ble_eq_true rfl, Nat.le_of_ble_eq_true rfl⟩) rfl hl.1 rfl (Nat.le_of_ble_eq_true rfl) dX10_looks_445 ⟨Nat.le_of_ble_eq_true rfl, Nat.le_of_ble_eq_true rfl⟩) hW (fun r_110 L_108 h_109 H locs p_111 hW => ?_)
                              case o222 => omega
                              case o223 => omega
                              case o224 => decide
                              obtain ⟨hr_112, hT, hs⟩ := p_111
                              replace hT : hx_T T_tb L_108 h_109 := hT
                              replace hs : hx_S T_tb [] hL1 hl1 L_108 h_109 := hs
                              replace fq_9 := (hs.o (gx.S hM) trivial rfl).2.trans fq_9
                              replace fx_14 := (hs.o (gx.S hM) trivial rfl).1.trans fx_14
                              replace fjw279_x_67 := (hs.o (gx.S hM) trivial rfl).1.trans fjw279_x_67
                              replace fq_16 := (hs.o (gx.S hM) trivial rfl).2.trans fq_16
                              replace fjw330_x_68 := (hs.o (gx.S hM) trivial rfl).1.trans fjw330_x_68
                              replace fjw354_x_69 := (hs.o (gx.S hM) trivial rfl).1.trans fjw354_x_69
                              replace fjw437_x_70 := (hs.o (gx.S hM) trivial rfl).1.trans fjw437_x_70
                              replace fq_106 := (hs.o (gx.S hM) trivial rfl).2.trans fq_106
                              replace ex_107 := ex_107.trans (hs.a gq_106 rfl _).1.symm
                              replace hM := hM.tr (hs.mono ?o225)
                              case o225 => decide
                              replace gq_9 := gq_9.S hs
                              replace gq_16 := gq_16.S hs
                              replace gq_106 := gq_106.S hs
                              refine lv_istore (lv' := [(8, .int r_110), (5, .int jv279_5), (4, .int jv136_4), (0, .ref x), (1, .int i1), (2, .int i2), (3, .int i3)]) hx hb dX10_looks_448 hl ?o226 rfl (fun ls hl => ?_)
                              case o226 => decide
                              refine lv_aload_n hx hb dX10_looks_450 rfl (lv_at hl 3 rfl) ?_
                              refine lv_aload_n hx hb dX10_looks_451 rfl (lv_at hl 3 rfl) ?_
                              refine hk_geti hx hb hts hC_10 hown hW (gx.S hM) tt_10 68 ?o227 rfl kw_1211 ⟨rfl, rfl, rfl⟩ fjw330_x_68 dX10_looks_452 ?_
                              case o227 => decide
                              refine hb_if_ne (zx := jw330_x_68.toInt) (tgt := 463) hx hb rfl dX10_looks_455 ?o228 (fun c_113 => ?_) (fun c_113 => ?_)
                              case o228 => decide
                              · skip
                                refine lv_aload_n hx hb dX10_looks_463 rfl (lv_at hl 3 rfl) ?_
                                refine hk_geti hx hb hts hC_10 hown hW (gx.S hM) tt_10 70 ?o229 rfl kw_1213 ⟨rfl, rfl, rfl⟩ fjw437_x_70 dX10_looks_464 ?_
                                case o229 => decide
                                refine lv_iload hx hb dX10_looks_467 (lv_at hl 0 rfl) ?_
                                refine lv_aload_n hx hb dX10_looks_469 rfl (lv_at hl 3 rfl) ?_
                                refine lv_aload_n hx hb dX10_looks_470 rfl (lv_at hl 3 rfl) ?_
                                refine hk_getr hx hb hts hC_10 hown hW (gx.S hM) tt_10 44 ?o230 rfl kw_1187 ⟨rfl, rfl, rfl⟩ fq_106 dX10_looks_471 ?_
                                case o230 => decide
                                refine lv_iload_n hx hb dX10_looks_474 rfl (lv_at hl 4 rfl) ?_
                                refine hx_iald hx hb hW hT gq_106 tt_79 rfl ⟨?o231, ?o232⟩ dX10_looks_475 (fun x_114 ex_114 lx_114 ux_114 => ?_)
                                case o231 => omega
                                case o232 => omega
                                obtain rfl : x_107 = x_114 := ex_107.trans ex_114.symm
                                refine lv_iconst (v := 5) hx hb dX10_looks_476 ?o233 ?_
                                case o233 => decide
                                have zc_5 : (5 : Int32).toInt = 5 := ?o234
                                case o234 => decide
                                refine hx_goi (hx_runV (As := [.int x_107, .int (5 : Int32)]) (rest := [.int r_110, .int jw437_x_70, .ref x]) ⟨hx, hb, hml, hown, hts⟩ hW (gx.S hM) tt_10 (T := TX10) (N := 98) rfl (t_X10_ruleOf l dC dI dA L_108 h_109 H.size x x_107 (5 : Int32) hT (gx.S hM) ⟨?o235, ?o236⟩ ?o237) (cwV 2 hts (hx_gV kw_1533 kw_1530 kw_1532 kw_66 kw_103) rfl rfl rfl (by decide +kernel) ⟨Nat.le_of_ble_eq_true rfl, Nat.le_of_ble_eq_true rfl⟩) rfl hl.1 rfl (Nat.le_of_ble_eq_true rfl) dX10_looks_477 ⟨Nat.le_of_ble_eq_true rfl, Nat.le_of_ble_eq_true rfl⟩) hW (fun r_117 L_115 h_116 H locs p_118 hW => ?_)
                                case o235 => omega
                                case o236 => omega
                                case o237 => decide
                                obtain ⟨hr_119, hT, hs⟩ := p_118
                                replace hT : hx_T T_tb L_115 h_116 := hT
                                replace hs : hx_S T_tb [] L_108 h_109 L_115 h_116 := hs
                                replace fq_9 := (hs.o (gx.S hM) trivial rfl).2.trans fq_9
                                replace fx_14 := (hs.o (gx.S hM) trivial rfl).1.trans fx_14
                                replace fjw279_x_67 := (hs.o (gx.S hM) trivial rfl).1.trans fjw279_x_67
                                replace fq_16 := (hs.o (gx.S hM) trivial rfl).2.trans fq_16
                                replace fjw330_x_68 := (hs.o (gx.S hM) trivial rfl).1.trans fjw330_x_68
                                replace fjw354_x_69 := (hs.o (gx.S hM) trivial rfl).1.trans fjw354_x_69
                                replace fjw437_x_70 := (hs.o (gx.S hM) trivial rfl).1.trans fjw437_x_70
                                replace fq_106 := (hs.o (gx.S hM) trivial rfl).2.trans fq_106
                                replace ex_107 := ex_107.trans (hs.a gq_106 rfl _).1.symm
                                replace hM := hM.tr (hs.mono ?o238)
                                case o238 => decide
                                replace gq_9 := gq_9.S hs
                                replace gq_16 := gq_16.S hs
                                replace gq_106 := gq_106.S hs
                                refine lv_iadd hx hb dX10_looks_480 ?_
                                have rg_120 := i32_r r_110
                                have rg_121 := i32_r r_117
                                refine lv_topi (fun x_122 ex_122 => ?_)
                                have zx_122 : x_122.toInt = r_110.toInt + r_117.toInt := ?o239
                                case o239 =>
                                  rw [ex_122]
                                  refine i32_add rfl rfl ?o240 ?o241
                                  case o240 => omega
                                  case o241 => omega
                                refine hb_icmp_lt (zx := jw437_x_70.toInt) (zy := x_122.toInt) (tgt := 489) hx hb rfl rfl dX10_looks_481 ?o242 (fun c_123 => ?_) (fun c_123 => ?_)
                                case o242 => decide
                                · skip
                                  refine lv_aload_n hx hb dX10_looks_489 rfl (lv_at hl 3 rfl) ?_
                                  refine hk_geti hx hb hts hC_10 hown hW (gx.S hM) tt_10 70 ?o243 rfl kw_1213 ⟨rfl, rfl, rfl⟩ fjw437_x_70 dX10_looks_490 ?_
                                  case o243 => decide
                                  refine lv_iload hx hb dX10_looks_493 (lv_at hl 0 rfl) ?_
                                  have jn_503 : ∀ (xj_124 : Int32) (ls : Array Slot), 4 ≤ xj_124.toInt → xj_124.toInt ≤ 5 → lv_has ls 9 [(8, .int r_110), (5, .int jv279_5), (4, .int jv136_4), (0, .ref x), (1, .int i1), (2, .int i2), (3, .int i3)] → W p l e ({ frames := 1, cells := 0, slots := 0, locals := 22 }) s m ([.ref x, .int i1, .int i2, .int i3] : List Value).toArray below meth c H locs 0 0 (MQ below (va_Qv (fun (u : List Nat × hx_h) => (∃ (rs1 : Int32) (st1 : Int32) (pd1 : Int32), u.2.2.1 x 68 = rs1 ∧ u.2.2.1 x 71 = st1 ∧ u.2.2.1 x 67 = pd1 ∧ (4 ≤ st1.toInt ∧ st1.toInt ≤ 6 → 1 ≤ rs1.toInt)) ∧ hx_T T_tb u.1 u.2 ∧ hx_S T_tb [(10, 67), (10, 68), (10, 69), (10, 70), (10, 71)] L h u.1 u.2) (hx_E T_tb (P_ty dA) (dC, dI) vwCl (hx_A L sz)) (hx_A L sz)) ([.ref x, .int i1, .int i2, .int i3] : List Value).toArray s 0 0 (hx_A L sz)) (F0 m 503 ls [.int xj_124, .ref x]) := by
                                    intro xj_124 ls blxj_124 buxj_124 hl
                                    refine hx_puti hx hb hts hC_10 hown hW hT (hx_S.rf (M := [(10, 71)])) (gx.S hM) tt_10 71 ?o244 rfl kw_1214 ⟨rfl, rfl, rfl⟩ rfl (x := xj_124) ⟨?o245, ?o246⟩ rfl rfl rfl (List.mem_singleton.mpr rfl) dX10_looks_503 (fun H locs h_125 eh_125 hW hT hs => ?_)
                                    case o244 => decide
                                    case o245 => omega
                                    case o246 => omega
                                    replace fq_9 := (hs.o (gx.S hM) trivial rfl).2.trans fq_9
                                    replace fx_14 := (hs.o (gx.S hM) trivial rfl).1.trans fx_14
                                    replace fjw279_x_67 := (hs.o (gx.S hM) trivial rfl).1.trans fjw279_x_67
                                    replace fq_16 := (hs.o (gx.S hM) trivial rfl).2.trans fq_16
                                    replace fjw330_x_68 := (hs.o (gx.S hM) trivial rfl).1.trans fjw330_x_68
                                    replace fjw354_x_69 := (hs.o (gx.S hM) trivial rfl).1.trans fjw354_x_69
                                    replace fjw437_x_70 := (hs.o (gx.S hM) trivial rfl).1.trans fjw437_x_70
                                    replace fq_106 := (hs.o (gx.S hM) trivial rfl).2.trans fq_106
                                    replace ex_107 := ex_107.trans (hs.a gq_106 rfl _).1.symm
                                    replace hM := hM.tr (hs.mono ?o247)
                                    case o247 => decide
                                    replace gq_9 := gq_9.S hs
                                    replace gq_16 := gq_16.S hs
                                    replace gq_106 := gq_106.S hs
                                    have f_126 : h_125.2.1 x 71 = xj_124 := ?o248
                                    case o248 =>
                                      rw [eh_125]
                                      exact hx_pi_at _ _ _ _
                                    exact hx_retv hx hb hr hlk hW ⟨⟨jw330_x_68, xj_124, jw279_x_67, fjw330_x_68, f_126, fjw279_x_67, (by first | omega | (refine ⟨?_, ?_⟩ <;> omega))⟩, hT, hM⟩ dX10_looks_506
                                  refine hb_icmp_lt (zx := jw437_x_70.toInt) (zy := r_110.toInt) (tgt := 502) hx hb rfl rfl dX10_looks_495 ?o249 (fun c_127 => ?_) (fun c_127 => ?_)
                                  case o249 => decide
                                  · skip
                                    refine lv_iconst (v := 4) hx hb dX10_looks_502 ?o250 ?_
                                    case o250 => decide
                                    refine jn_503 (4 : Int32) ls ?o251 ?o252 hl
                                    case o251 => decide
                                    case o252 => decide
                                  · skip
                                    refine lv_iconst (v := 5) hx hb dX10_looks_498 ?o253 ?_
                                    case o253 => decide
                                    refine lv_goto (tgt := 503) hx hb dX10_looks_499 ?o254 ?_
                                    case o254 => decide
                                    refine jn_503 (5 : Int32) ls ?o255 ?o256 hl
                                    case o255 => decide
                                    case o256 => decide
                                · skip
                                  refine lv_bipush (v := 6) hx hb dX10_looks_484 ?o257 ?_
                                  case o257 => decide
                                  refine lv_goto (tgt := 503) hx hb dX10_looks_486 ?o258 ?_
                                  case o258 => decide
                                  refine hx_puti hx hb hts hC_10 hown hW hT (hx_S.rf (M := [(10, 71)])) (gx.S hM) tt_10 71 ?o259 rfl kw_1214 ⟨rfl, rfl, rfl⟩ rfl (x := (6 : Int32)) ?o260 rfl rfl rfl (List.mem_singleton.mpr rfl) dX10_looks_503 (fun H locs h_128 eh_128 hW hT hs => ?_)
                                  case o259 => decide
                                  case o260 => decide
                                  replace fq_9 := (hs.o (gx.S hM) trivial rfl).2.trans fq_9
                                  replace fx_14 := (hs.o (gx.S hM) trivial rfl).1.trans fx_14
                                  replace fjw279_x_67 := (hs.o (gx.S hM) trivial rfl).1.trans fjw279_x_67
                                  replace fq_16 := (hs.o (gx.S hM) trivial rfl).2.trans fq_16
                                  replace fjw330_x_68 := (hs.o (gx.S hM) trivial rfl).1.trans fjw330_x_68
                                  replace fjw354_x_69 := (hs.o (gx.S hM) trivial rfl).1.trans fjw354_x_69
                                  replace fjw437_x_70 := (hs.o (gx.S hM) trivial rfl).1.trans fjw437_x_70
                                  replace fq_106 := (hs.o (gx.S hM) trivial rfl).2.trans fq_106
                                  replace ex_107 := ex_107.trans (hs.a gq_106 rfl _).1.symm
                                  replace hM := hM.tr (hs.mono ?o261)
                                  case o261 => decide
                                  replace gq_9 := gq_9.S hs
                                  replace gq_16 := gq_16.S hs
                                  replace gq_106 := gq_106.S hs
                                  have f_129 : h_128.2.1 x 71 = (6 : Int32) := ?o262
                                  case o262 =>
                                    rw [eh_128]
                                    exact hx_pi_at _ _ _ _
                                  have zo_6 : (6 : Int32).toInt = 6 := ?o263
                                  case o263 => decide
                                  exact hx_retv hx hb hr hlk hW ⟨⟨jw330_x_68, (6 : Int32), jw279_x_67, fjw330_x_68, f_129, fjw279_x_67, (by first | omega | (refine ⟨?_, ?_⟩ <;> omega))⟩, hT, hM⟩ dX10_looks_506
                              · skip
                                refine lv_bipush (v := 7) hx hb dX10_looks_458 ?o264 ?_
                                case o264 => decide
                                refine lv_goto (tgt := 503) hx hb dX10_looks_460 ?o265 ?_
                                case o265 => decide
                                refine hx_puti hx hb hts hC_10 hown hW hT (hx_S.rf (M := [(10, 71)])) (gx.S hM) tt_10 71 ?o266 rfl kw_1214 ⟨rfl, rfl, rfl⟩ rfl (x := (7 : Int32)) ?o267 rfl rfl rfl (List.mem_singleton.mpr rfl) dX10_looks_503 (fun H locs h_130 eh_130 hW hT hs => ?_)
                                case o266 => decide
                                case o267 => decide
                                replace fq_9 := (hs.o (gx.S hM) trivial rfl).2.trans fq_9
                                replace fx_14 := (hs.o (gx.S hM) trivial rfl).1.trans fx_14
                                replace fjw279_x_67 := (hs.o (gx.S hM) trivial rfl).1.trans fjw279_x_67
                                replace fq_16 := (hs.o (gx.S hM) trivial rfl).2.trans fq_16
                                replace fjw330_x_68 := (hs.o (gx.S hM) trivial rfl).1.trans fjw330_x_68
                                replace fjw354_x_69 := (hs.o (gx.S hM) trivial rfl).1.trans fjw354_x_69
                                replace fjw437_x_70 := (hs.o (gx.S hM) trivial rfl).1.trans fjw437_x_70
                                replace fq_106 := (hs.o (gx.S hM) trivial rfl).2.trans fq_106
                                replace ex_107 := ex_107.trans (hs.a gq_106 rfl _).1.symm
                                replace hM := hM.tr (hs.mono ?o268)
                                case o268 => decide
                                replace gq_9 := gq_9.S hs
                                replace gq_16 := gq_16.S hs
                                replace gq_106 := gq_106.S hs
                                have f_131 : h_130.2.1 x 71 = (7 : Int32) := ?o269
                                case o269 =>
                                  rw [eh_130]
                                  exact hx_pi_at _ _ _ _
                                have zo_7 : (7 : Int32).toInt = 7 := ?o270
                                case o270 => decide
                                exact hx_retv hx hb hr hlk hW ⟨⟨jw330_x_68, (7 : Int32), jw279_x_67, fjw330_x_68, f_131, fjw279_x_67, (by first | omega | (refine ⟨?_, ?_⟩ <;> omega))⟩, hT, hM⟩ dX10_looks_506
                            refine lv_iload_n hx hb dX10_looks_354 rfl (lv_at hl 4 rfl) ?_
                            refine lv_aload_n hx hb dX10_looks_355 rfl (lv_at hl 2 rfl) ?_
                            refine hk_getr hx hb hts hC_10 hown hW (gx.S hM) tt_10 48 ?o271 rfl kw_1191 ⟨rfl, rfl, rfl⟩ fq_9 dX10_looks_356 ?_
                            case o271 => decide
                            refine lv_iload_n hx hb dX10_looks_359 rfl (lv_at hl 3 rfl) ?_
                            refine hx_iald hx hb hW hT gq_9 tt_83 rfl ⟨?o272, ?o273⟩ dX10_looks_360 (fun x_132 ex_132 lx_132 ux_132 => ?_)
                            case o272 => omega
                            case o273 => omega
                            refine lv_isub hx hb dX10_looks_361 ?_
                            have rg_133 := i32_r i2
                            have rg_134 := i32_r x_132
                            refine lv_topi (fun x_135 ex_135 => ?_)
                            have zx_135 : x_135.toInt = i2.toInt - x_132.toInt := ?o274
                            case o274 =>
                              rw [ex_135]
                              refine i32_sub rfl rfl ?o275 ?o276
                              case o275 => omega
                              case o276 => omega
                            refine lv_bipush (v := 7) hx hb dX10_looks_362 ?o277 ?_
                            case o277 => decide
                            refine lv_idiv hx hb dX10_looks_364 ?o278 ?_
                            case o278 => decide
                            refine lv_topi (fun x_136 ex_136 => ?_)
                            have zx_136 : -1073741824 ≤ x_136.toInt ∧ x_136.toInt ≤ 1073741824 := ?o279
                            case o279 =>
                              rw [ex_136]
                              refine hx_divb ?o280
                              case o280 => decide
                            refine lv_istore (lv' := [(6, .int x_136), (5, .int jv279_5), (4, .int jv136_4), (0, .ref x), (1, .int i1), (2, .int i2), (3, .int i3)]) hx hb dX10_looks_365 hl ?o281 rfl (fun ls hl => ?_)
                            case o281 => decide
                            refine lv_aload_n hx hb dX10_looks_367 rfl (lv_at hl 3 rfl) ?_
                            refine hx_getn hx hb hts hC_10 hown hW hT (gx.S hM) tt_10 54 ?o282 rfl kw_1197 ⟨rfl, rfl, rfl⟩ dX10_looks_368 (fun q_137 fq_137 gq_137 => ?_)
                            case o282 => decide
                            refine lv_iload_n hx hb dX10_looks_371 rfl (lv_at hl 4 rfl) ?_
                            refine hx_iald hx hb hW hT gq_137 tt_89 rfl ⟨?o283, ?o284⟩ dX10_looks_372 (fun x_138 ex_138 lx_138 ux_138 => ?_)
                            case o283 => omega
                            case o284 => omega
                            refine lv_iload hx hb dX10_looks_373 (lv_at hl 0 rfl) ?_
                            refine lv_imul hx hb dX10_looks_375 ?_
                            refine lv_topi (fun x_139 ex_139 => ?_)
                            have mx_139 : x_138.toInt = 0 → x_139.toInt = 0 := fun z => by rw [ex_139]; exact hx_mul0 z
                            refine lv_iload hx hb dX10_looks_376 (lv_at hl 1 rfl) ?_
                            refine hb_icmp_ge (zx := x_139.toInt) (zy := jv279_5.toInt) (tgt := 393) hx hb rfl rfl dX10_looks_378 ?o285 (fun c_140 => ?_) (fun c_140 => ?_)
                            case o285 => decide
                            · skip
                              refine lv_iload hx hb dX10_looks_393 (lv_at hl 1 rfl) ?_
                              refine lv_istore (lv' := [(7, .int jv279_5), (6, .int x_136), (5, .int jv279_5), (4, .int jv136_4), (0, .ref x), (1, .int i1), (2, .int i2), (3, .int i3)]) hx hb dX10_looks_395 hl ?o286 rfl (fun ls hl => ?_)
                              case o286 => decide
                              refine lv_aload_n hx hb dX10_looks_397 rfl (lv_at hl 4 rfl) ?_
                              refine lv_iload hx hb dX10_looks_398 (lv_at hl 0 rfl) ?_
                              refine lv_aload_n hx hb dX10_looks_400 rfl (lv_at hl 4 rfl) ?_
                              refine hk_geti hx hb hts hC_10 hown hW (gx.S hM) tt_10 67 ?o287 rfl kw_1210 ⟨rfl, rfl, rfl⟩ fjw279_x_67 dX10_looks_401 ?_
                              case o287 => decide
                              refine hb_icmp_le (zx := jv279_5.toInt) (zy := jw279_x_67.toInt) (tgt := 433) hx hb rfl rfl dX10_looks_404 ?o288 (fun c_141 => ?_) (fun c_141 => ?_)
                              case o288 => decide
                              · skip
                                refine lv_iconst (v := 0) hx hb dX10_looks_433 ?o289 ?_
                                case o289 => decide
                                refine hx_puti hx hb hts hC_10 hown hW hT (hx_S.rf (M := [(10, 70)])) (gx.S hM) tt_10 70 ?o290 rfl kw_1213 ⟨rfl, rfl, rfl⟩ rfl (x := (0 : Int32)) ?o291 rfl rfl rfl (List.mem_singleton.mpr rfl) dX10_looks_434 (fun H locs h_142 eh_142 hW hT hs => ?_)
                                case o290 => decide
                                case o291 => decide
                                replace fq_9 := (hs.o (gx.S hM) trivial rfl).2.trans fq_9
                                replace fx_14 := (hs.o (gx.S hM) trivial rfl).1.trans fx_14
                                replace fjw279_x_67 := (hs.o (gx.S hM) trivial rfl).1.trans fjw279_x_67
                                replace fq_16 := (hs.o (gx.S hM) trivial rfl).2.trans fq_16
                                replace fjw330_x_68 := (hs.o (gx.S hM) trivial rfl).1.trans fjw330_x_68
                                replace fjw354_x_69 := (hs.o (gx.S hM) trivial rfl).1.trans fjw354_x_69
                                replace fq_137 := (hs.o (gx.S hM) trivial rfl).2.trans fq_137
                                replace ex_132 := ex_132.trans (hs.a gq_9 rfl _).1.symm
                                replace ex_138 := ex_138.trans (hs.a gq_137 rfl _).1.symm
                                replace hM := hM.tr (hs.mono ?o292)
                                case o292 => decide
                                replace gq_9 := gq_9.S hs
                                replace gq_16 := gq_16.S hs
                                replace gq_137 := gq_137.S hs
                                have f_143 : h_142.2.1 x 70 = (0 : Int32) := ?o293
                                case o293 =>
                                  rw [eh_142]
                                  exact hx_pi_at _ _ _ _
                                have zk_0 : (0 : Int32).toInt = 0 := ?o294
                                case o294 => decide
                                refine join437 (0 : Int32) _ _ hL1 h_142 ?o295 ?o296  ls hW hT hM f_143 fq_9 fx_14 fjw279_x_67 fq_16 fjw330_x_68 fjw354_x_69 gq_9 gq_16 (lv_sub hl [2, 3, 4, 5, 6, 7] rfl)
                                case o295 => decide
                                case o296 => decide
                              · skip
                                refine lv_iload hx hb dX10_looks_407 (lv_at hl 0 rfl) ?_
                                refine lv_aload_n hx hb dX10_looks_409 rfl (lv_at hl 4 rfl) ?_
                                refine hk_geti hx hb hts hC_10 hown hW (gx.S hM) tt_10 67 ?o297 rfl kw_1210 ⟨rfl, rfl, rfl⟩ fjw279_x_67 dX10_looks_410 ?_
                                case o297 => decide
                                refine lv_isub hx hb dX10_looks_413 ?_
                                have rg_144 := i32_r jv279_5
                                have rg_145 := i32_r jw279_x_67
                                refine lv_topi (fun x_146 ex_146 => ?_)
                                have zx_146 : x_146.toInt = jv279_5.toInt - jw279_x_67.toInt := ?o298
                                case o298 =>
                                  rw [ex_146]
                                  refine i32_sub rfl rfl ?o299 ?o300
                                  case o299 => omega
                                  case o300 => omega
                                refine lv_aload_n hx hb dX10_looks_414 rfl (lv_at hl 4 rfl) ?_
                                refine hk_getr hx hb hts hC_10 hown hW (gx.S hM) tt_10 54 ?o301 rfl kw_1197 ⟨rfl, rfl, rfl⟩ fq_137 dX10_looks_415 ?_
                                case o301 => decide
                                refine lv_iload_n hx hb dX10_looks_418 rfl (lv_at hl 5 rfl) ?_
                                refine hx_iald hx hb hW hT gq_137 tt_89 rfl ⟨?o302, ?o303⟩ dX10_looks_419 (fun x_147 ex_147 lx_147 ux_147 => ?_)
                                case o302 => omega
                                case o303 => omega
                                obtain rfl : x_138 = x_147 := ex_138.trans ex_147.symm
                                refine lv_iadd hx hb dX10_looks_420 ?_
                                have rg_148 := i32_r x_146
                                have rg_149 := i32_r x_138
                                refine lv_topi (fun x_150 ex_150 => ?_)
                                have zx_150 : x_150.toInt = x_146.toInt + x_138.toInt := ?o304
                                case o304 =>
                                  rw [ex_150]
                                  refine i32_add rfl rfl ?o305 ?o306
                                  case o305 => omega
                                  case o306 => omega
                                refine lv_iconst (v := 1) hx hb dX10_looks_421 ?o307 ?_
                                case o307 => decide
                                refine lv_isub hx hb dX10_looks_422 ?_
                                have rg_151 := i32_r x_150
                                refine lv_topi (fun x_152 ex_152 => ?_)
                                have zx_152 : x_152.toInt = x_150.toInt - 1 := ?o308
                                case o308 =>
                                  rw [ex_152]
                                  refine i32_sub rfl ?o309 ?o310 ?o311
                                  case o309 => decide
                                  case o310 => omega
                                  case o311 => omega
                                refine lv_aload_n hx hb dX10_looks_423 rfl (lv_at hl 4 rfl) ?_
                                refine hk_getr hx hb hts hC_10 hown hW (gx.S hM) tt_10 54 ?o312 rfl kw_1197 ⟨rfl, rfl, rfl⟩ fq_137 dX10_looks_424 ?_
                                case o312 => decide
                                refine lv_iload_n hx hb dX10_looks_427 rfl (lv_at hl 5 rfl) ?_
                                refine hx_iald hx hb hW hT gq_137 tt_89 rfl ⟨?o313, ?o314⟩ dX10_looks_428 (fun x_153 ex_153 lx_153 ux_153 => ?_)
                                case o313 => omega
                                case o314 => omega
                                obtain rfl : x_138 = x_153 := ex_138.trans ex_153.symm
                                refine lv_idiv hx hb dX10_looks_429 (hx_ne0 ?o315) ?_
                                case o315 => omega
                                refine lv_topi (fun x_154 ex_154 => ?_)
                                refine lv_goto (tgt := 434) hx hb dX10_looks_430 ?o316 ?_
                                case o316 => decide
                                refine hx_puti hx hb hts hC_10 hown hW hT (hx_S.rf (M := [(10, 70)])) (gx.S hM) tt_10 70 ?o317 rfl kw_1213 ⟨rfl, rfl, rfl⟩ rfl (x := x_154) (i32_r _) rfl rfl rfl (List.mem_singleton.mpr rfl) dX10_looks_434 (fun H locs h_155 eh_155 hW hT hs => ?_)
                                case o317 => decide
                                replace fq_9 := (hs.o (gx.S hM) trivial rfl).2.trans fq_9
                                replace fx_14 := (hs.o (gx.S hM) trivial rfl).1.trans fx_14
                                replace fjw279_x_67 := (hs.o (gx.S hM) trivial rfl).1.trans fjw279_x_67
                                replace fq_16 := (hs.o (gx.S hM) trivial rfl).2.trans fq_16
                                replace fjw330_x_68 := (hs.o (gx.S hM) trivial rfl).1.trans fjw330_x_68
                                replace fjw354_x_69 := (hs.o (gx.S hM) trivial rfl).1.trans fjw354_x_69
                                replace fq_137 := (hs.o (gx.S hM) trivial rfl).2.trans fq_137
                                replace ex_132 := ex_132.trans (hs.a gq_9 rfl _).1.symm
                                replace ex_138 := ex_138.trans (hs.a gq_137 rfl _).1.symm
                                replace hM := hM.tr (hs.mono ?o318)
                                case o318 => decide
                                replace gq_9 := gq_9.S hs
                                replace gq_16 := gq_16.S hs
                                replace gq_137 := gq_137.S hs
                                have f_156 : h_155.2.1 x 70 = x_154 := ?o319
                                case o319 =>
                                  rw [eh_155]
                                  exact hx_pi_at _ _ _ _
                                exact join437 x_154 _ _ hL1 h_155 (i32_r _).1 (i32_r _).2  ls hW hT hM f_156 fq_9 fx_14 fjw279_x_67 fq_16 fjw330_x_68 fjw354_x_69 gq_9 gq_16 (lv_sub hl [2, 3, 4, 5, 6, 7] rfl)
                            · skip
                              refine lv_aload_n hx hb dX10_looks_381 rfl (lv_at hl 3 rfl) ?_
                              refine hk_getr hx hb hts hC_10 hown hW (gx.S hM) tt_10 54 ?o320 rfl kw_1197 ⟨rfl, rfl, rfl⟩ fq_137 dX10_looks_382 ?_
                              case o320 => decide
                              refine lv_iload_n hx hb dX10_looks_385 rfl (lv_at hl 4 rfl) ?_
                              refine hx_iald hx hb hW hT gq_137 tt_89 rfl ⟨?o321, ?o322⟩ dX10_looks_386 (fun x_157 ex_157 lx_157 ux_157 => ?_)
                              case o321 => omega
                              case o322 => omega
                              obtain rfl : x_138 = x_157 := ex_138.trans ex_157.symm
                              refine lv_iload hx hb dX10_looks_387 (lv_at hl 0 rfl) ?_
                              refine lv_imul hx hb dX10_looks_389 ?_
                              refine lv_topi (fun x_158 ex_158 => ?_)
                              have mx_158 : x_138.toInt = 0 → x_158.toInt = 0 := fun z => by rw [ex_158]; exact hx_mul0 z
                              refine lv_goto (tgt := 395) hx hb dX10_looks_390 ?o323 ?_
                              case o323 => decide
                              refine lv_istore (lv' := [(7, .int x_158), (6, .int x_136), (5, .int jv279_5), (4, .int jv136_4), (0, .ref x), (1, .int i1), (2, .int i2), (3, .int i3)]) hx hb dX10_looks_395 hl ?o324 rfl (fun ls hl => ?_)
                              case o324 => decide
                              refine lv_aload_n hx hb dX10_looks_397 rfl (lv_at hl 4 rfl) ?_
                              refine lv_iload hx hb dX10_looks_398 (lv_at hl 0 rfl) ?_
                              refine lv_aload_n hx hb dX10_looks_400 rfl (lv_at hl 4 rfl) ?_
                              refine hk_geti hx hb hts hC_10 hown hW (gx.S hM) tt_10 67 ?o325 rfl kw_1210 ⟨rfl, rfl, rfl⟩ fjw279_x_67 dX10_looks_401 ?_
                              case o325 => decide
                              refine hb_icmp_le (zx := x_158.toInt) (zy := jw279_x_67.toInt) (tgt := 433) hx hb rfl rfl dX10_looks_404 ?o326 (fun c_159 => ?_) (fun c_159 => ?_)
                              case o326 => decide
                              · skip
                                refine lv_iconst (v := 0) hx hb dX10_looks_433 ?o327 ?_
                                case o327 => decide
                                refine hx_puti hx hb hts hC_10 hown hW hT (hx_S.rf (M := [(10, 70)])) (gx.S hM) tt_10 70 ?o328 rfl kw_1213 ⟨rfl, rfl, rfl⟩ rfl (x := (0 : Int32)) ?o329 rfl rfl rfl (List.mem_singleton.mpr rfl) dX10_looks_434 (fun H locs h_160 eh_160 hW hT hs => ?_)
                                case o328 => decide
                                case o329 => decide
                                replace fq_9 := (hs.o (gx.S hM) trivial rfl).2.trans fq_9
                                replace fx_14 := (hs.o (gx.S hM) trivial rfl).1.trans fx_14
                                replace fjw279_x_67 := (hs.o (gx.S hM) trivial rfl).1.trans fjw279_x_67
                                replace fq_16 := (hs.o (gx.S hM) trivial rfl).2.trans fq_16
                                replace fjw330_x_68 := (hs.o (gx.S hM) trivial rfl).1.trans fjw330_x_68
                                replace fjw354_x_69 := (hs.o (gx.S hM) trivial rfl).1.trans fjw354_x_69
                                replace fq_137 := (hs.o (gx.S hM) trivial rfl).2.trans fq_137
                                replace ex_132 := ex_132.trans (hs.a gq_9 rfl _).1.symm
                                replace ex_138 := ex_138.trans (hs.a gq_137 rfl _).1.symm
                                replace hM := hM.tr (hs.mono ?o330)
                                case o330 => decide
                                replace gq_9 := gq_9.S hs
                                replace gq_16 := gq_16.S hs
                                replace gq_137 := gq_137.S hs
                                have f_161 : h_160.2.1 x 70 = (0 : Int32) := ?o331
                                case o331 =>
                                  rw [eh_160]
                                  exact hx_pi_at _ _ _ _
                                have zk_0 : (0 : Int32).toInt = 0 := ?o332
                                case o332 => decide
                                refine join437 (0 : Int32) _ _ hL1 h_160 ?o333 ?o334  ls hW hT hM f_161 fq_9 fx_14 fjw279_x_67 fq_16 fjw330_x_68 fjw354_x_69 gq_9 gq_16 (lv_sub hl [2, 3, 4, 5, 6, 7] rfl)
                                case o333 => decide
                                case o334 => decide
                              · skip
                                refine lv_iload hx hb dX10_looks_407 (lv_at hl 0 rfl) ?_
                                refine lv_aload_n hx hb dX10_looks_409 rfl (lv_at hl 4 rfl) ?_
                                refine hk_geti hx hb hts hC_10 hown hW (gx.S hM) tt_10 67 ?o335 rfl kw_1210 ⟨rfl, rfl, rfl⟩ fjw279_x_67 dX10_looks_410 ?_
                                case o335 => decide
                                refine lv_isub hx hb dX10_looks_413 ?_
                                have rg_162 := i32_r x_158
                                have rg_163 := i32_r jw279_x_67
                                refine lv_topi (fun x_164 ex_164 => ?_)
                                have zx_164 : x_164.toInt = x_158.toInt - jw279_x_67.toInt := ?o336
                                case o336 =>
                                  rw [ex_164]
                                  refine i32_sub rfl rfl ?o337 ?o338
                                  case o337 => omega
                                  case o338 => omega
                                refine lv_aload_n hx hb dX10_looks_414 rfl (lv_at hl 4 rfl) ?_
                                refine hk_getr hx hb hts hC_10 hown hW (gx.S hM) tt_10 54 ?o339 rfl kw_1197 ⟨rfl, rfl, rfl⟩ fq_137 dX10_looks_415 ?_
                                case o339 => decide
                                refine lv_iload_n hx hb dX10_looks_418 rfl (lv_at hl 5 rfl) ?_
                                refine hx_iald hx hb hW hT gq_137 tt_89 rfl ⟨?o340, ?o341⟩ dX10_looks_419 (fun x_165 ex_165 lx_165 ux_165 => ?_)
                                case o340 => omega
                                case o341 => omega
                                obtain rfl : x_138 = x_165 := ex_138.trans ex_165.symm
                                refine lv_iadd hx hb dX10_looks_420 ?_
                                have rg_166 := i32_r x_164
                                have rg_167 := i32_r x_138
                                refine lv_topi (fun x_168 ex_168 => ?_)
                                refine lv_iconst (v := 1) hx hb dX10_looks_421 ?o342 ?_
                                case o342 => decide
                                refine lv_isub hx hb dX10_looks_422 ?_
                                have rg_169 := i32_r x_168
                                refine lv_topi (fun x_170 ex_170 => ?_)
                                refine lv_aload_n hx hb dX10_looks_423 rfl (lv_at hl 4 rfl) ?_
                                refine hk_getr hx hb hts hC_10 hown hW (gx.S hM) tt_10 54 ?o343 rfl kw_1197 ⟨rfl, rfl, rfl⟩ fq_137 dX10_looks_424 ?_
                                case o343 => decide
                                refine lv_iload_n hx hb dX10_looks_427 rfl (lv_at hl 5 rfl) ?_
                                refine hx_iald hx hb hW hT gq_137 tt_89 rfl ⟨?o344, ?o345⟩ dX10_looks_428 (fun x_171 ex_171 lx_171 ux_171 => ?_)
                                case o344 => omega
                                case o345 => omega
                                obtain rfl : x_138 = x_171 := ex_138.trans ex_171.symm
                                refine lv_idiv hx hb dX10_looks_429 (hx_ne0 ?o346) ?_
                                case o346 => omega
                                refine lv_topi (fun x_172 ex_172 => ?_)
                                refine lv_goto (tgt := 434) hx hb dX10_looks_430 ?o347 ?_
                                case o347 => decide
                                refine hx_puti hx hb hts hC_10 hown hW hT (hx_S.rf (M := [(10, 70)])) (gx.S hM) tt_10 70 ?o348 rfl kw_1213 ⟨rfl, rfl, rfl⟩ rfl (x := x_172) (i32_r _) rfl rfl rfl (List.mem_singleton.mpr rfl) dX10_looks_434 (fun H locs h_173 eh_173 hW hT hs => ?_)
                                case o348 => decide
                                replace fq_9 := (hs.o (gx.S hM) trivial rfl).2.trans fq_9
                                replace fx_14 := (hs.o (gx.S hM) trivial rfl).1.trans fx_14
                                replace fjw279_x_67 := (hs.o (gx.S hM) trivial rfl).1.trans fjw279_x_67
                                replace fq_16 := (hs.o (gx.S hM) trivial rfl).2.trans fq_16
                                replace fjw330_x_68 := (hs.o (gx.S hM) trivial rfl).1.trans fjw330_x_68
                                replace fjw354_x_69 := (hs.o (gx.S hM) trivial rfl).1.trans fjw354_x_69
                                replace fq_137 := (hs.o (gx.S hM) trivial rfl).2.trans fq_137
                                replace ex_132 := ex_132.trans (hs.a gq_9 rfl _).1.symm
                                replace ex_138 := ex_138.trans (hs.a gq_137 rfl _).1.symm
                                replace hM := hM.tr (hs.mono ?o349)
                                case o349 => decide
                                replace gq_9 := gq_9.S hs
                                replace gq_16 := gq_16.S hs
                                replace gq_137 := gq_137.S hs
                                have f_174 : h_173.2.1 x 70 = x_172 := ?o350
                                case o350 =>
                                  rw [eh_173]
                                  exact hx_pi_at _ _ _ _
                                exact join437 x_172 _ _ hL1 h_173 (i32_r _).1 (i32_r _).2  ls hW hT hM f_174 fq_9 fx_14 fjw279_x_67 fq_16 fjw330_x_68 fjw354_x_69 gq_9 gq_16 (lv_sub hl [2, 3, 4, 5, 6, 7] rfl)
                          refine lv_aload_n hx hb dX10_looks_330 rfl (lv_at hl 2 rfl) ?_
                          refine lv_aload_n hx hb dX10_looks_331 rfl (lv_at hl 2 rfl) ?_
                          refine hk_geti hx hb hts hC_10 hown hW (gx.S hM) tt_10 67 ?o351 rfl kw_1210 ⟨rfl, rfl, rfl⟩ fjw279_x_67 dX10_looks_332 ?_
                          case o351 => decide
                          refine lv_iload hx hb dX10_looks_335 (lv_at hl 0 rfl) ?_
                          refine hb_icmp_le (zx := jw279_x_67.toInt) (zy := jv279_5.toInt) (tgt := 350) hx hb rfl rfl dX10_looks_337 ?o352 (fun c_175 => ?_) (fun c_175 => ?_)
                          case o352 => decide
                          · skip
                            refine lv_iconst (v := 0) hx hb dX10_looks_350 ?o353 ?_
                            case o353 => decide
                            refine hx_puti hx hb hts hC_10 hown hW hT (hx_S.rf (M := [(10, 69)])) (gx.S hM) tt_10 69 ?o354 rfl kw_1212 ⟨rfl, rfl, rfl⟩ rfl (x := (0 : Int32)) ?o355 rfl rfl rfl (List.mem_singleton.mpr rfl) dX10_looks_351 (fun H locs h_176 eh_176 hW hT hs => ?_)
                            case o354 => decide
                            case o355 => decide
                            replace f_8 := (hs.o (gx.S hM) trivial rfl).1.trans f_8
                            replace fq_9 := (hs.o (gx.S hM) trivial rfl).2.trans fq_9
                            replace fx_14 := (hs.o (gx.S hM) trivial rfl).1.trans fx_14
                            replace fjw279_x_67 := (hs.o (gx.S hM) trivial rfl).1.trans fjw279_x_67
                            replace fq_16 := (hs.o (gx.S hM) trivial rfl).2.trans fq_16
                            replace fjw330_x_68 := (hs.o (gx.S hM) trivial rfl).1.trans fjw330_x_68
                            replace hM := hM.tr (hs.mono ?o356)
                            case o356 => decide
                            replace gq_9 := gq_9.S hs
                            replace gq_16 := gq_16.S hs
                            have f_177 : h_176.2.1 x 69 = (0 : Int32) := ?o357
                            case o357 =>
                              rw [eh_176]
                              exact hx_pi_at _ _ _ _
                            have zk_0 : (0 : Int32).toInt = 0 := ?o358
                            case o358 => decide
                            refine join354 (0 : Int32) _ _ hL1 h_176 ?o359 ?o360  ls hW hT hM f_177 f_8 fq_9 fx_14 fjw279_x_67 fq_16 fjw330_x_68 gq_9 gq_16 (lv_sub hl [0, 1, 2, 3, 4, 5] rfl)
                            case o359 => decide
                            case o360 => decide
                          · skip
                            refine lv_aload_n hx hb dX10_looks_340 rfl (lv_at hl 2 rfl) ?_
                            refine hk_geti hx hb hts hC_10 hown hW (gx.S hM) tt_10 67 ?o361 rfl kw_1210 ⟨rfl, rfl, rfl⟩ fjw279_x_67 dX10_looks_341 ?_
                            case o361 => decide
                            refine lv_iload hx hb dX10_looks_344 (lv_at hl 0 rfl) ?_
                            refine lv_isub hx hb dX10_looks_346 ?_
                            have rg_178 := i32_r jw279_x_67
                            have rg_179 := i32_r jv279_5
                            refine lv_topi (fun x_180 ex_180 => ?_)
                            have zx_180 : x_180.toInt = jw279_x_67.toInt - jv279_5.toInt := ?o362
                            case o362 =>
                              rw [ex_180]
                              refine i32_sub rfl rfl ?o363 ?o364
                              case o363 => omega
                              case o364 => omega
                            refine lv_goto (tgt := 351) hx hb dX10_looks_347 ?o365 ?_
                            case o365 => decide
                            refine hx_puti hx hb hts hC_10 hown hW hT (hx_S.rf (M := [(10, 69)])) (gx.S hM) tt_10 69 ?o366 rfl kw_1212 ⟨rfl, rfl, rfl⟩ rfl (x := x_180) (i32_r _) rfl rfl rfl (List.mem_singleton.mpr rfl) dX10_looks_351 (fun H locs h_181 eh_181 hW hT hs => ?_)
                            case o366 => decide
                            replace f_8 := (hs.o (gx.S hM) trivial rfl).1.trans f_8
                            replace fq_9 := (hs.o (gx.S hM) trivial rfl).2.trans fq_9
                            replace fx_14 := (hs.o (gx.S hM) trivial rfl).1.trans fx_14
                            replace fjw279_x_67 := (hs.o (gx.S hM) trivial rfl).1.trans fjw279_x_67
                            replace fq_16 := (hs.o (gx.S hM) trivial rfl).2.trans fq_16
                            replace fjw330_x_68 := (hs.o (gx.S hM) trivial rfl).1.trans fjw330_x_68
                            replace hM := hM.tr (hs.mono ?o367)
                            case o367 => decide
                            replace gq_9 := gq_9.S hs
                            replace gq_16 := gq_16.S hs
                            have f_182 : h_181.2.1 x 69 = x_180 := ?o368
                            case o368 =>
                              rw [eh_181]
                              exact hx_pi_at _ _ _ _
                            exact join354 x_180 _ _ hL1 h_181 (i32_r _).1 (i32_r _).2  ls hW hT hM f_182 f_8 fq_9 fx_14 fjw279_x_67 fq_16 fjw330_x_68 gq_9 gq_16 (lv_sub hl [0, 1, 2, 3, 4, 5] rfl)
                        refine lv_aload_n hx hb dX10_looks_306 rfl (lv_at hl 2 rfl) ?_
                        refine lv_iload hx hb dX10_looks_307 (lv_at hl 0 rfl) ?_
                        refine lv_aload_n hx hb dX10_looks_309 rfl (lv_at hl 2 rfl) ?_
                        refine hk_geti hx hb hts hC_10 hown hW (gx.S hM) tt_10 67 ?o369 rfl kw_1210 ⟨rfl, rfl, rfl⟩ fjw279_x_67 dX10_looks_310 ?_
                        case o369 => decide
                        refine hb_icmp_le (zx := jv279_5.toInt) (zy := jw279_x_67.toInt) (tgt := 326) hx hb rfl rfl dX10_looks_313 ?o370 (fun c_183 => ?_) (fun c_183 => ?_)
                        case o370 => decide
                        · skip
                          refine lv_iconst (v := 0) hx hb dX10_looks_326 ?o371 ?_
                          case o371 => decide
                          refine hx_puti hx hb hts hC_10 hown hW hT (hx_S.rf (M := [(10, 68)])) (gx.S hM) tt_10 68 ?o372 rfl kw_1211 ⟨rfl, rfl, rfl⟩ rfl (x := (0 : Int32)) ?o373 rfl rfl rfl (List.mem_singleton.mpr rfl) dX10_looks_327 (fun H locs h_184 eh_184 hW hT hs => ?_)
                          case o372 => decide
                          case o373 => decide
                          replace f_6 := (hs.o (gx.S hM) trivial rfl).1.trans f_6
                          replace f_8 := (hs.o (gx.S hM) trivial rfl).1.trans f_8
                          replace fq_9 := (hs.o (gx.S hM) trivial rfl).2.trans fq_9
                          replace fx_14 := (hs.o (gx.S hM) trivial rfl).1.trans fx_14
                          replace fjw279_x_67 := (hs.o (gx.S hM) trivial rfl).1.trans fjw279_x_67
                          replace fq_16 := (hs.o (gx.S hM) trivial rfl).2.trans fq_16
                          replace ex_17 := ex_17.trans (hs.a gq_16 rfl _).1.symm
                          replace hM := hM.tr (hs.mono ?o374)
                          case o374 => decide
                          replace gq_9 := gq_9.S hs
                          replace gq_16 := gq_16.S hs
                          have f_185 : h_184.2.1 x 68 = (0 : Int32) := ?o375
                          case o375 =>
                            rw [eh_184]
                            exact hx_pi_at _ _ _ _
                          have zk_0 : (0 : Int32).toInt = 0 := ?o376
                          case o376 => decide
                          refine join330 (0 : Int32) _ _ hL1 h_184 ?o377 ?o378  ls hW hT hM f_185 f_6 f_8 fq_9 fx_14 fjw279_x_67 fq_16 gq_9 gq_16 (lv_sub hl [0, 1, 2, 3, 4, 5] rfl)
                          case o377 => decide
                          case o378 => decide
                        · skip
                          refine lv_iload hx hb dX10_looks_316 (lv_at hl 0 rfl) ?_
                          refine lv_aload_n hx hb dX10_looks_318 rfl (lv_at hl 2 rfl) ?_
                          refine hk_geti hx hb hts hC_10 hown hW (gx.S hM) tt_10 67 ?o379 rfl kw_1210 ⟨rfl, rfl, rfl⟩ fjw279_x_67 dX10_looks_319 ?_
                          case o379 => decide
                          refine lv_isub hx hb dX10_looks_322 ?_
                          have rg_186 := i32_r jv279_5
                          have rg_187 := i32_r jw279_x_67
                          refine lv_topi (fun x_188 ex_188 => ?_)
                          have zx_188 : x_188.toInt = jv279_5.toInt - jw279_x_67.toInt := ?o380
                          case o380 =>
                            rw [ex_188]
                            refine i32_sub rfl rfl ?o381 ?o382
                            case o381 => omega
                            case o382 => omega
                          refine lv_goto (tgt := 327) hx hb dX10_looks_323 ?o383 ?_
                          case o383 => decide
                          refine hx_puti hx hb hts hC_10 hown hW hT (hx_S.rf (M := [(10, 68)])) (gx.S hM) tt_10 68 ?o384 rfl kw_1211 ⟨rfl, rfl, rfl⟩ rfl (x := x_188) ⟨?o385, ?o386⟩ rfl rfl rfl (List.mem_singleton.mpr rfl) dX10_looks_327 (fun H locs h_189 eh_189 hW hT hs => ?_)
                          case o384 => decide
                          case o385 => omega
                          case o386 => omega
                          replace f_6 := (hs.o (gx.S hM) trivial rfl).1.trans f_6
                          replace f_8 := (hs.o (gx.S hM) trivial rfl).1.trans f_8
                          replace fq_9 := (hs.o (gx.S hM) trivial rfl).2.trans fq_9
                          replace fx_14 := (hs.o (gx.S hM) trivial rfl).1.trans fx_14
                          replace fjw279_x_67 := (hs.o (gx.S hM) trivial rfl).1.trans fjw279_x_67
                          replace fq_16 := (hs.o (gx.S hM) trivial rfl).2.trans fq_16
                          replace ex_17 := ex_17.trans (hs.a gq_16 rfl _).1.symm
                          replace hM := hM.tr (hs.mono ?o387)
                          case o387 => decide
                          replace gq_9 := gq_9.S hs
                          replace gq_16 := gq_16.S hs
                          have f_190 : h_189.2.1 x 68 = x_188 := ?o388
                          case o388 =>
                            rw [eh_189]
                            exact hx_pi_at _ _ _ _
                          refine join330 x_188 _ _ hL1 h_189 ?o389 ?o390  ls hW hT hM f_190 f_6 f_8 fq_9 fx_14 fjw279_x_67 fq_16 gq_9 gq_16 (lv_sub hl [0, 1, 2, 3, 4, 5] rfl)
                          case o389 => omega
                          case o390 => omega
                      · skip
                        refine lv_aload_n hx hb dX10_looks_299 rfl (lv_at hl 2 rfl) ?_
                        refine lv_bipush (v := 8) hx hb dX10_looks_300 ?o391 ?_
                        case o391 => decide
                        refine hx_puti hx hb hts hC_10 hown hW hT (hx_S.rf (M := [(10, 71)])) (gx.S hM) tt_10 71 ?o392 rfl kw_1214 ⟨rfl, rfl, rfl⟩ rfl (x := (8 : Int32)) ?o393 rfl rfl rfl (List.mem_singleton.mpr rfl) dX10_looks_302 (fun H locs h_191 eh_191 hW hT hs => ?_)
                        case o392 => decide
                        case o393 => decide
                        replace f_4 := (hs.o (gx.S hM) trivial rfl).1.trans f_4
                        replace f_6 := (hs.o (gx.S hM) trivial rfl).1.trans f_6
                        replace f_8 := (hs.o (gx.S hM) trivial rfl).1.trans f_8
                        replace fq_9 := (hs.o (gx.S hM) trivial rfl).2.trans fq_9
                        replace fx_14 := (hs.o (gx.S hM) trivial rfl).1.trans fx_14
                        replace fjw279_x_67 := (hs.o (gx.S hM) trivial rfl).1.trans fjw279_x_67
                        replace fq_16 := (hs.o (gx.S hM) trivial rfl).2.trans fq_16
                        replace ex_17 := ex_17.trans (hs.a gq_16 rfl _).1.symm
                        replace hM := hM.tr (hs.mono ?o394)
                        case o394 => decide
                        replace gq_9 := gq_9.S hs
                        replace gq_16 := gq_16.S hs
                        have f_192 : h_191.2.1 x 71 = (8 : Int32) := ?o395
                        case o395 =>
                          rw [eh_191]
                          exact hx_pi_at _ _ _ _
                        have zo_0 : (0 : Int32).toInt = 0 := ?o396
                        case o396 => decide
                        have zo_8 : (8 : Int32).toInt = 8 := ?o397
                        case o397 => decide
                        exact hx_retv hx hb hr hlk hW ⟨⟨(0 : Int32), (8 : Int32), jw279_x_67, f_4, f_192, fjw279_x_67, (by first | omega | (refine ⟨?_, ?_⟩ <;> omega))⟩, hT, hM⟩ dX10_looks_305
                  refine lv_aload_n hx hb dX10_looks_225 rfl (lv_at hl 2 rfl) ?_
                  refine lv_dup hx hb dX10_looks_226 rfl ?_
                  refine hk_geti hx hb hts hC_10 hown hW (gx.S hM) tt_10 67 ?o398 rfl kw_1210 ⟨rfl, rfl, rfl⟩ ffw139_x_67 dX10_looks_227 ?_
                  case o398 => decide
                  refine lv_iload hx hb dX10_looks_230 (lv_at hl 1 rfl) ?_
                  refine hb_if_eq (zx := jv136_4.toInt) (tgt := 244) hx hb rfl dX10_looks_232 ?o399 (fun c_193 => ?_) (fun c_193 => ?_)
                  case o399 => decide
                  · skip
                    refine lv_iconst (v := 0) hx hb dX10_looks_244 ?o400 ?_
                    case o400 => decide
                    refine lv_iadd hx hb dX10_looks_245 ?_
                    have rg_194 := i32_r fw139_x_67
                    refine lv_topi (fun x_195 ex_195 => ?_)
                    have zx_195 : x_195.toInt = fw139_x_67.toInt + 0 := ?o401
                    case o401 =>
                      rw [ex_195]
                      refine i32_add rfl ?o402 ?o403 ?o404
                      case o402 => decide
                      case o403 => omega
                      case o404 => omega
                    refine hx_puti hx hb hts hC_10 hown hW hT (hx_S.rf (M := [(10, 67)])) (gx.S hM) tt_10 67 ?o405 rfl kw_1210 ⟨rfl, rfl, rfl⟩ rfl (x := x_195) ⟨?o406, ?o407⟩ rfl rfl rfl (List.mem_singleton.mpr rfl) dX10_looks_246 (fun H locs h_196 eh_196 hW hT hs => ?_)
                    case o405 => decide
                    case o406 => omega
                    case o407 => omega
                    replace f_4 := (hs.o (gx.S hM) trivial rfl).1.trans f_4
                    replace f_6 := (hs.o (gx.S hM) trivial rfl).1.trans f_6
                    replace f_8 := (hs.o (gx.S hM) trivial rfl).1.trans f_8
                    replace fjw88_x_71 := (hs.o (gx.S hM) trivial rfl).1.trans fjw88_x_71
                    replace fq_9 := (hs.o (gx.S hM) trivial rfl).2.trans fq_9
                    replace fx_14 := (hs.o (gx.S hM) trivial rfl).1.trans fx_14
                    replace hM := hM.tr (hs.mono ?o408)
                    case o408 => decide
                    replace gq_9 := gq_9.S hs
                    have f_197 : h_196.2.1 x 67 = x_195 := ?o409
                    case o409 =>
                      rw [eh_196]
                      exact hx_pi_at _ _ _ _
                    refine lv_aload_n hx hb dX10_looks_249 rfl (lv_at hl 2 rfl) ?_
                    refine hx_getn hx hb hts hC_10 hown hW hT (gx.S hM) tt_10 55 ?o410 rfl kw_1198 ⟨rfl, rfl, rfl⟩ dX10_looks_250 (fun q_198 fq_198 gq_198 => ?_)
                    case o410 => decide
                    refine lv_iload_n hx hb dX10_looks_253 rfl (lv_at hl 3 rfl) ?_
                    refine hx_iald hx hb hW hT gq_198 tt_90 rfl ⟨?o411, ?o412⟩ dX10_looks_254 (fun x_199 ex_199 lx_199 ux_199 => ?_)
                    case o411 => omega
                    case o412 => omega
                    refine lv_iload hx hb dX10_looks_255 (lv_at hl 1 rfl) ?_
                    refine hb_if_eq (zx := jv136_4.toInt) (tgt := 275) hx hb rfl dX10_looks_257 ?o413 (fun c_200 => ?_) (fun c_200 => ?o414)
                    case o413 => decide
                    case o414 =>
                      exfalso
                      omega
                    refine lv_iconst (v := 0) hx hb dX10_looks_275 ?o415 ?_
                    case o415 => decide
                    refine lv_iadd hx hb dX10_looks_276 ?_
                    have rg_201 := i32_r x_199
                    refine lv_topi (fun x_202 ex_202 => ?_)
                    have zx_202 : x_202.toInt = x_199.toInt + 0 := ?o416
                    case o416 =>
                      rw [ex_202]
                      refine i32_add rfl ?o417 ?o418 ?o419
                      case o417 => decide
                      case o418 => omega
                      case o419 => omega
                    refine lv_istore (lv' := [(5, .int x_202), (4, .int jv136_4), (0, .ref x), (1, .int i1), (2, .int i2), (3, .int i3)]) hx hb dX10_looks_277 hl ?o420 rfl (fun ls hl => ?_)
                    case o420 => decide
                    refine join279 x_202 x_195 _ _ hL1 h_196 ?o421 ?o422 ?o423 ?o424  ls hW hT hM f_197 f_4 f_6 f_8 fq_9 fx_14 gq_9 (lv_sub hl [0, 1, 2, 3, 4, 5] rfl)
                    case o421 => omega
                    case o422 => omega
                    case o423 => omega
                    case o424 => omega
                  · skip
                    refine lv_aload_n hx hb dX10_looks_235 rfl (lv_at hl 2 rfl) ?_
                    refine hx_getn hx hb hts hC_10 hown hW hT (gx.S hM) tt_10 56 ?o425 rfl kw_1199 ⟨rfl, rfl, rfl⟩ dX10_looks_236 (fun q_203 fq_203 gq_203 => ?_)
                    case o425 => decide
                    refine lv_iload_n hx hb dX10_looks_239 rfl (lv_at hl 3 rfl) ?_
                    refine hx_iald hx hb hW hT gq_203 tt_91 rfl ⟨?o426, ?o427⟩ dX10_looks_240 (fun x_204 ex_204 lx_204 ux_204 => ?_)
                    case o426 => omega
                    case o427 => omega
                    refine lv_goto (tgt := 245) hx hb dX10_looks_241 ?o428 ?_
                    case o428 => decide
                    refine lv_iadd hx hb dX10_looks_245 ?_
                    have rg_205 := i32_r fw139_x_67
                    have rg_206 := i32_r x_204
                    refine lv_topi (fun x_207 ex_207 => ?_)
                    have zx_207 : x_207.toInt = fw139_x_67.toInt + x_204.toInt := ?o429
                    case o429 =>
                      rw [ex_207]
                      refine i32_add rfl rfl ?o430 ?o431
                      case o430 => omega
                      case o431 => omega
                    refine hx_puti hx hb hts hC_10 hown hW hT (hx_S.rf (M := [(10, 67)])) (gx.S hM) tt_10 67 ?o432 rfl kw_1210 ⟨rfl, rfl, rfl⟩ rfl (x := x_207) ⟨?o433, ?o434⟩ rfl rfl rfl (List.mem_singleton.mpr rfl) dX10_looks_246 (fun H locs h_208 eh_208 hW hT hs => ?_)
                    case o432 => decide
                    case o433 => omega
                    case o434 => omega
                    replace f_4 := (hs.o (gx.S hM) trivial rfl).1.trans f_4
                    replace f_6 := (hs.o (gx.S hM) trivial rfl).1.trans f_6
                    replace f_8 := (hs.o (gx.S hM) trivial rfl).1.trans f_8
                    replace fjw88_x_71 := (hs.o (gx.S hM) trivial rfl).1.trans fjw88_x_71
                    replace fq_9 := (hs.o (gx.S hM) trivial rfl).2.trans fq_9
                    replace fx_14 := (hs.o (gx.S hM) trivial rfl).1.trans fx_14
                    replace fq_203 := (hs.o (gx.S hM) trivial rfl).2.trans fq_203
                    replace ex_204 := ex_204.trans (hs.a gq_203 rfl _).1.symm
                    replace hM := hM.tr (hs.mono ?o435)
                    case o435 => decide
                    replace gq_9 := gq_9.S hs
                    replace gq_203 := gq_203.S hs
                    have f_209 : h_208.2.1 x 67 = x_207 := ?o436
                    case o436 =>
                      rw [eh_208]
                      exact hx_pi_at _ _ _ _
                    refine lv_aload_n hx hb dX10_looks_249 rfl (lv_at hl 2 rfl) ?_
                    refine hx_getn hx hb hts hC_10 hown hW hT (gx.S hM) tt_10 55 ?o437 rfl kw_1198 ⟨rfl, rfl, rfl⟩ dX10_looks_250 (fun q_210 fq_210 gq_210 => ?_)
                    case o437 => decide
                    refine lv_iload_n hx hb dX10_looks_253 rfl (lv_at hl 3 rfl) ?_
                    refine hx_iald hx hb hW hT gq_210 tt_90 rfl ⟨?o438, ?o439⟩ dX10_looks_254 (fun x_211 ex_211 lx_211 ux_211 => ?_)
                    case o438 => omega
                    case o439 => omega
                    refine lv_iload hx hb dX10_looks_255 (lv_at hl 1 rfl) ?_
                    refine hb_if_eq (zx := jv136_4.toInt) (tgt := 275) hx hb rfl dX10_looks_257 ?o440 (fun c_212 => ?o441) (fun c_212 => ?_)
                    case o440 => decide
                    case o441 =>
                      exfalso
                      omega
                    refine lv_aload_n hx hb dX10_looks_260 rfl (lv_at hl 2 rfl) ?_
                    refine lv_aload_n hx hb dX10_looks_261 rfl (lv_at hl 2 rfl) ?_
                    refine hx_getn hx hb hts hC_10 hown hW hT (gx.S hM) tt_10 44 ?o442 rfl kw_1187 ⟨rfl, rfl, rfl⟩ dX10_looks_262 (fun q_213 fq_213 gq_213 => ?_)
                    case o442 => decide
                    refine lv_iload_n hx hb dX10_looks_265 rfl (lv_at hl 3 rfl) ?_
                    refine hx_iald hx hb hW hT gq_213 tt_79 rfl ⟨?o443, ?o444⟩ dX10_looks_266 (fun x_214 ex_214 lx_214 ux_214 => ?_)
                    case o443 => omega
                    case o444 => omega
                    refine lv_bipush (v := 12) hx hb dX10_looks_267 ?o445 ?_
                    case o445 => decide
                    have zc_12 : (12 : Int32).toInt = 12 := ?o446
                    case o446 => decide
                    refine hx_goi (hx_runV (As := [.int x_214, .int (12 : Int32)]) (rest := [.int x_211]) ⟨hx, hb, hml, hown, hts⟩ hW (gx.S hM) tt_10 (T := TX10) (N := 98) rfl (t_X10_ruleOf l dC dI dA hL1 h_208 H.size x x_214 (12 : Int32) hT (gx.S hM) ⟨?o447, ?o448⟩ ?o449) (cwV 2 hts (hx_gV kw_1533 kw_1530 kw_1532 kw_66 kw_103) rfl rfl rfl (by decide +kernel) ⟨Nat.le_of_ble_eq_true rfl, Nat.le_of_ble_eq_true rfl⟩) rfl hl.1 rfl (Nat.le_of_ble_eq_true rfl) dX10_looks_269 ⟨Nat.le_of_ble_eq_true rfl, Nat.le_of_ble_eq_true rfl⟩) hW (fun r_217 L_215 h_216 H locs p_218 hW => ?_)
                    case o447 => omega
                    case o448 => omega
                    case o449 => decide
                    obtain ⟨hr_219, hT, hs⟩ := p_218
                    replace hT : hx_T T_tb L_215 h_216 := hT
                    replace hs : hx_S T_tb [] hL1 h_208 L_215 h_216 := hs
                    replace f_4 := (hs.o (gx.S hM) trivial rfl).1.trans f_4
                    replace f_6 := (hs.o (gx.S hM) trivial rfl).1.trans f_6
                    replace f_8 := (hs.o (gx.S hM) trivial rfl).1.trans f_8
                    replace fjw88_x_71 := (hs.o (gx.S hM) trivial rfl).1.trans fjw88_x_71
                    replace fq_9 := (hs.o (gx.S hM) trivial rfl).2.trans fq_9
                    replace fx_14 := (hs.o (gx.S hM) trivial rfl).1.trans fx_14
                    replace fq_203 := (hs.o (gx.S hM) trivial rfl).2.trans fq_203
                    replace f_209 := (hs.o (gx.S hM) trivial rfl).1.trans f_209
                    replace fq_210 := (hs.o (gx.S hM) trivial rfl).2.trans fq_210
                    replace fq_213 := (hs.o (gx.S hM) trivial rfl).2.trans fq_213
                    replace ex_204 := ex_204.trans (hs.a gq_203 rfl _).1.symm
                    replace ex_211 := ex_211.trans (hs.a gq_210 rfl _).1.symm
                    replace ex_214 := ex_214.trans (hs.a gq_213 rfl _).1.symm
                    replace hM := hM.tr (hs.mono ?o450)
                    case o450 => decide
                    replace gq_9 := gq_9.S hs
                    replace gq_203 := gq_203.S hs
                    replace gq_210 := gq_210.S hs
                    replace gq_213 := gq_213.S hs
                    refine lv_goto (tgt := 276) hx hb dX10_looks_272 ?o451 ?_
                    case o451 => decide
                    refine lv_iadd hx hb dX10_looks_276 ?_
                    have rg_220 := i32_r x_211
                    have rg_221 := i32_r r_217
                    refine lv_topi (fun x_222 ex_222 => ?_)
                    have zx_222 : x_222.toInt = x_211.toInt + r_217.toInt := ?o452
                    case o452 =>
                      rw [ex_222]
                      refine i32_add rfl rfl ?o453 ?o454
                      case o453 => omega
                      case o454 => omega
                    refine lv_istore (lv' := [(5, .int x_222), (4, .int jv136_4), (0, .ref x), (1, .int i1), (2, .int i2), (3, .int i3)]) hx hb dX10_looks_277 hl ?o455 rfl (fun ls hl => ?_)
                    case o455 => decide
                    refine join279 x_222 x_207 _ _ L_215 h_216 ?o456 ?o457 ?o458 ?o459  ls hW hT hM f_209 f_4 f_6 f_8 fq_9 fx_14 gq_9 (lv_sub hl [0, 1, 2, 3, 4, 5] rfl)
                    case o456 => omega
                    case o457 => omega
                    case o458 => omega
                    case o459 => omega
                · skip
                  refine lv_aload_n hx hb dX10_looks_148 rfl (lv_at hl 2 rfl) ?_
                  refine hx_getn hx hb hts hC_10 hown hW hT (gx.S hM) tt_10 60 ?o460 rfl kw_1203 ⟨rfl, rfl, rfl⟩ dX10_looks_149 (fun q_223 fq_223 gq_223 => ?_)
                  case o460 => decide
                  refine lv_iload hx hb dX10_looks_152 (lv_at hl 0 rfl) ?_
                  refine hx_iald hx hb hW hT gq_223 tt_93 rfl ⟨?o461, ?o462⟩ dX10_looks_154 (fun x_224 ex_224 lx_224 ux_224 => ?_)
                  case o461 => omega
                  case o462 => omega
                  refine lv_iload_n hx hb dX10_looks_155 rfl (lv_at hl 3 rfl) ?_
                  refine hb_icmp_ne (zx := x_224.toInt) (zy := i1.toInt) (tgt := 219) hx hb rfl rfl dX10_looks_156 ?o463 (fun c_225 => ?_) (fun c_225 => ?_)
                  case o463 => decide
                  · skip
                    obtain ⟨x_226, ex_226⟩ : ∃ y : Int32, y = iv139_5 + Int32.ofInt 1 := ⟨_, rfl⟩
                    have rg_227 := i32_r iv139_5
                    have zx_226 : x_226.toInt = iv139_5.toInt + (1) := ?o464
                    case o464 =>
                      rw [ex_226]
                      refine i32_add rfl ?o465 ?o466 ?o467
                      case o465 => decide
                      case o466 => omega
                      case o467 => omega
                    refine lv_iinc (v := x_226) (lv' := [(5, .int x_226), (4, .int jv136_4), (0, .ref x), (1, .int i1), (2, .int i2), (3, .int i3)]) hx hb dX10_looks_219 hl (k := 0) rfl ex_226.symm ?o468 rfl (fun ls hl => ?_)
                    case o468 => decide
                    refine lv_goto (tgt := 139) hx hb dX10_looks_222 ?o469 ?_
                    case o469 => decide
                    refine ih139 x_226 fw139_x_67 _ _ hL1 hl1 ?o470 ?o471 ?o472 ?o473 ?o474 ls ?o475 hW hT hM ffw139_x_67 f_4 f_6 f_8 fjw88_x_71 fq_9 gq_9 (lv_sub hl [0, 1, 2, 3, 4, 5] rfl)
                    case o470 => omega
                    case o471 => omega
                    case o472 => omega
                    case o473 => omega
                    case o474 => omega
                    case o475 => omega
                  · skip
                    refine lv_aload_n hx hb dX10_looks_159 rfl (lv_at hl 2 rfl) ?_
                    refine hx_getn hx hb hts hC_10 hown hW hT (gx.S hM) tt_10 61 ?o476 rfl kw_1204 ⟨rfl, rfl, rfl⟩ dX10_looks_160 (fun q_228 fq_228 gq_228 => ?_)
                    case o476 => decide
                    refine lv_iload hx hb dX10_looks_163 (lv_at hl 0 rfl) ?_
                    refine hx_iald hx hb hW hT gq_228 tt_94 rfl ⟨?o477, ?o478⟩ dX10_looks_165 (fun x_229 ex_229 lx_229 ux_229 => ?_)
                    case o477 => omega
                    case o478 => omega
                    refine lv_iload_n hx hb dX10_looks_166 rfl (lv_at hl 4 rfl) ?_
                    refine hb_icmp_gt (zx := x_229.toInt) (zy := i2.toInt) (tgt := 219) hx hb rfl rfl dX10_looks_167 ?o479 (fun c_230 => ?_) (fun c_230 => ?_)
                    case o479 => decide
                    · skip
                      obtain ⟨x_231, ex_231⟩ : ∃ y : Int32, y = iv139_5 + Int32.ofInt 1 := ⟨_, rfl⟩
                      have rg_232 := i32_r iv139_5
                      have zx_231 : x_231.toInt = iv139_5.toInt + (1) := ?o480
                      case o480 =>
                        rw [ex_231]
                        refine i32_add rfl ?o481 ?o482 ?o483
                        case o481 => decide
                        case o482 => omega
                        case o483 => omega
                      refine lv_iinc (v := x_231) (lv' := [(5, .int x_231), (4, .int jv136_4), (0, .ref x), (1, .int i1), (2, .int i2), (3, .int i3)]) hx hb dX10_looks_219 hl (k := 0) rfl ex_231.symm ?o484 rfl (fun ls hl => ?_)
                      case o484 => decide
                      refine lv_goto (tgt := 139) hx hb dX10_looks_222 ?o485 ?_
                      case o485 => decide
                      refine ih139 x_231 fw139_x_67 _ _ hL1 hl1 ?o486 ?o487 ?o488 ?o489 ?o490 ls ?o491 hW hT hM ffw139_x_67 f_4 f_6 f_8 fjw88_x_71 fq_9 gq_9 (lv_sub hl [0, 1, 2, 3, 4, 5] rfl)
                      case o486 => omega
                      case o487 => omega
                      case o488 => omega
                      case o489 => omega
                      case o490 => omega
                      case o491 => omega
                    · skip
                      refine lv_aload_n hx hb dX10_looks_170 rfl (lv_at hl 2 rfl) ?_
                      refine hx_getn hx hb hts hC_10 hown hW hT (gx.S hM) tt_10 63 ?o492 rfl kw_1206 ⟨rfl, rfl, rfl⟩ dX10_looks_171 (fun q_233 fq_233 gq_233 => ?_)
                      case o492 => decide
                      refine lv_iload hx hb dX10_looks_174 (lv_at hl 0 rfl) ?_
                      refine hx_iald hx hb hW hT gq_233 tt_96 rfl ⟨?o493, ?o494⟩ dX10_looks_176 (fun x_234 ex_234 lx_234 ux_234 => ?_)
                      case o493 => omega
                      case o494 => omega
                      refine lv_iload_n hx hb dX10_looks_177 rfl (lv_at hl 5 rfl) ?_
                      refine hb_icmp_gt (zx := x_234.toInt) (zy := i3.toInt) (tgt := 219) hx hb rfl rfl dX10_looks_178 ?o495 (fun c_235 => ?_) (fun c_235 => ?_)
                      case o495 => decide
                      · skip
                        obtain ⟨x_236, ex_236⟩ : ∃ y : Int32, y = iv139_5 + Int32.ofInt 1 := ⟨_, rfl⟩
                        have rg_237 := i32_r iv139_5
                        have zx_236 : x_236.toInt = iv139_5.toInt + (1) := ?o496
                        case o496 =>
                          rw [ex_236]
                          refine i32_add rfl ?o497 ?o498 ?o499
                          case o497 => decide
                          case o498 => omega
                          case o499 => omega
                        refine lv_iinc (v := x_236) (lv' := [(5, .int x_236), (4, .int jv136_4), (0, .ref x), (1, .int i1), (2, .int i2), (3, .int i3)]) hx hb dX10_looks_219 hl (k := 0) rfl ex_236.symm ?o500 rfl (fun ls hl => ?_)
                        case o500 => decide
                        refine lv_goto (tgt := 139) hx hb dX10_looks_222 ?o501 ?_
                        case o501 => decide
                        refine ih139 x_236 fw139_x_67 _ _ hL1 hl1 ?o502 ?o503 ?o504 ?o505 ?o506 ls ?o507 hW hT hM ffw139_x_67 f_4 f_6 f_8 fjw88_x_71 fq_9 gq_9 (lv_sub hl [0, 1, 2, 3, 4, 5] rfl)
                        case o502 => omega
                        case o503 => omega
                        case o504 => omega
                        case o505 => omega
                        case o506 => omega
                        case o507 => omega
                      · skip
                        refine lv_aload_n hx hb dX10_looks_181 rfl (lv_at hl 2 rfl) ?_
                        refine hx_getn hx hb hts hC_10 hown hW hT (gx.S hM) tt_10 64 ?o508 rfl kw_1207 ⟨rfl, rfl, rfl⟩ dX10_looks_182 (fun q_238 fq_238 gq_238 => ?_)
                        case o508 => decide
                        refine lv_iload hx hb dX10_looks_185 (lv_at hl 0 rfl) ?_
                        refine hx_iald hx hb hW hT gq_238 tt_97 rfl ⟨?o509, ?o510⟩ dX10_looks_187 (fun x_239 ex_239 lx_239 ux_239 => ?_)
                        case o509 => omega
                        case o510 => omega
                        refine lv_iconst (v := -1) hx hb dX10_looks_188 ?o511 ?_
                        case o511 => decide
                        refine hb_icmp_eq (zx := x_239.toInt) (zy := (-1)) (tgt := 203) hx hb rfl ?o512 dX10_looks_189 ?o513 (fun c_240 => ?_) (fun c_240 => ?_)
                        case o512 => decide
                        case o513 => decide
                        · skip
                          refine lv_aload_n hx hb dX10_looks_203 rfl (lv_at hl 2 rfl) ?_
                          refine lv_dup hx hb dX10_looks_204 rfl ?_
                          refine hk_geti hx hb hts hC_10 hown hW (gx.S hM) tt_10 67 ?o514 rfl kw_1210 ⟨rfl, rfl, rfl⟩ ffw139_x_67 dX10_looks_205 ?_
                          case o514 => decide
                          refine lv_aload_n hx hb dX10_looks_208 rfl (lv_at hl 2 rfl) ?_
                          refine hx_getn hx hb hts hC_10 hown hW hT (gx.S hM) tt_10 62 ?o515 rfl kw_1205 ⟨rfl, rfl, rfl⟩ dX10_looks_209 (fun q_241 fq_241 gq_241 => ?_)
                          case o515 => decide
                          refine lv_iload hx hb dX10_looks_212 (lv_at hl 0 rfl) ?_
                          refine hx_iald hx hb hW hT gq_241 tt_95 rfl ⟨?o516, ?o517⟩ dX10_looks_214 (fun x_242 ex_242 lx_242 ux_242 => ?_)
                          case o516 => omega
                          case o517 => omega
                          refine lv_iadd hx hb dX10_looks_215 ?_
                          have rg_243 := i32_r fw139_x_67
                          have rg_244 := i32_r x_242
                          refine lv_topi (fun x_245 ex_245 => ?_)
                          have zx_245 : x_245.toInt = fw139_x_67.toInt + x_242.toInt := ?o518
                          case o518 =>
                            rw [ex_245]
                            refine i32_add rfl rfl ?o519 ?o520
                            case o519 => omega
                            case o520 => omega
                          refine hx_puti hx hb hts hC_10 hown hW hT (hx_S.rf (M := [(10, 67)])) (gx.S hM) tt_10 67 ?o521 rfl kw_1210 ⟨rfl, rfl, rfl⟩ rfl (x := x_245) ⟨?o522, ?o523⟩ rfl rfl rfl (List.mem_singleton.mpr rfl) dX10_looks_216 (fun H locs h_246 eh_246 hW hT hs => ?_)
                          case o521 => decide
                          case o522 => omega
                          case o523 => omega
                          replace f_4 := (hs.o (gx.S hM) trivial rfl).1.trans f_4
                          replace f_6 := (hs.o (gx.S hM) trivial rfl).1.trans f_6
                          replace f_8 := (hs.o (gx.S hM) trivial rfl).1.trans f_8
                          replace fjw88_x_71 := (hs.o (gx.S hM) trivial rfl).1.trans fjw88_x_71
                          replace fq_9 := (hs.o (gx.S hM) trivial rfl).2.trans fq_9
                          replace fx_14 := (hs.o (gx.S hM) trivial rfl).1.trans fx_14
                          replace fq_223 := (hs.o (gx.S hM) trivial rfl).2.trans fq_223
                          replace fq_228 := (hs.o (gx.S hM) trivial rfl).2.trans fq_228
                          replace fq_233 := (hs.o (gx.S hM) trivial rfl).2.trans fq_233
                          replace fq_238 := (hs.o (gx.S hM) trivial rfl).2.trans fq_238
                          replace fq_241 := (hs.o (gx.S hM) trivial rfl).2.trans fq_241
                          replace ex_224 := ex_224.trans (hs.a gq_223 rfl _).1.symm
                          replace ex_229 := ex_229.trans (hs.a gq_228 rfl _).1.symm
                          replace ex_234 := ex_234.trans (hs.a gq_233 rfl _).1.symm
                          replace ex_239 := ex_239.trans (hs.a gq_238 rfl _).1.symm
                          replace ex_242 := ex_242.trans (hs.a gq_241 rfl _).1.symm
                          replace hM := hM.tr (hs.mono ?o524)
                          case o524 => decide
                          replace gq_9 := gq_9.S hs
                          replace gq_223 := gq_223.S hs
                          replace gq_228 := gq_228.S hs
                          replace gq_233 := gq_233.S hs
                          replace gq_238 := gq_238.S hs
                          replace gq_241 := gq_241.S hs
                          have f_247 : h_246.2.1 x 67 = x_245 := ?o525
                          case o525 =>
                            rw [eh_246]
                            exact hx_pi_at _ _ _ _
                          obtain ⟨x_248, ex_248⟩ : ∃ y : Int32, y = iv139_5 + Int32.ofInt 1 := ⟨_, rfl⟩
                          have rg_249 := i32_r iv139_5
                          have zx_248 : x_248.toInt = iv139_5.toInt + (1) := ?o526
                          case o526 =>
                            rw [ex_248]
                            refine i32_add rfl ?o527 ?o528 ?o529
                            case o527 => decide
                            case o528 => omega
                            case o529 => omega
                          refine lv_iinc (v := x_248) (lv' := [(5, .int x_248), (4, .int jv136_4), (0, .ref x), (1, .int i1), (2, .int i2), (3, .int i3)]) hx hb dX10_looks_219 hl (k := 0) rfl ex_248.symm ?o530 rfl (fun ls hl => ?_)
                          case o530 => decide
                          refine lv_goto (tgt := 139) hx hb dX10_looks_222 ?o531 ?_
                          case o531 => decide
                          refine ih139 x_248 x_245 _ _ hL1 h_246 ?o532 ?o533 ?o534 ?o535 ?o536 ls ?o537 hW hT hM f_247 f_4 f_6 f_8 fjw88_x_71 fq_9 gq_9 (lv_sub hl [0, 1, 2, 3, 4, 5] rfl)
                          case o532 => omega
                          case o533 => omega
                          case o534 => omega
                          case o535 => omega
                          case o536 => omega
                          case o537 => omega
                        · skip
                          refine lv_aload_n hx hb dX10_looks_192 rfl (lv_at hl 2 rfl) ?_
                          refine hk_getr hx hb hts hC_10 hown hW (gx.S hM) tt_10 64 ?o538 rfl kw_1207 ⟨rfl, rfl, rfl⟩ fq_238 dX10_looks_193 ?_
                          case o538 => decide
                          refine lv_iload hx hb dX10_looks_196 (lv_at hl 0 rfl) ?_
                          refine hx_iald hx hb hW hT gq_238 tt_97 rfl ⟨?o539, ?o540⟩ dX10_looks_198 (fun x_250 ex_250 lx_250 ux_250 => ?_)
                          case o539 => omega
                          case o540 => omega
                          obtain rfl : x_239 = x_250 := ex_239.trans ex_250.symm
                          refine lv_iload_n hx hb dX10_looks_199 rfl (lv_at hl 5 rfl) ?_
                          refine hb_icmp_le (zx := x_239.toInt) (zy := i3.toInt) (tgt := 219) hx hb rfl rfl dX10_looks_200 ?o541 (fun c_251 => ?_) (fun c_251 => ?_)
                          case o541 => decide
                          · skip
                            obtain ⟨x_252, ex_252⟩ : ∃ y : Int32, y = iv139_5 + Int32.ofInt 1 := ⟨_, rfl⟩
                            have rg_253 := i32_r iv139_5
                            have zx_252 : x_252.toInt = iv139_5.toInt + (1) := ?o542
                            case o542 =>
                              rw [ex_252]
                              refine i32_add rfl ?o543 ?o544 ?o545
                              case o543 => decide
                              case o544 => omega
                              case o545 => omega
                            refine lv_iinc (v := x_252) (lv' := [(5, .int x_252), (4, .int jv136_4), (0, .ref x), (1, .int i1), (2, .int i2), (3, .int i3)]) hx hb dX10_looks_219 hl (k := 0) rfl ex_252.symm ?o546 rfl (fun ls hl => ?_)
                            case o546 => decide
                            refine lv_goto (tgt := 139) hx hb dX10_looks_222 ?o547 ?_
                            case o547 => decide
                            refine ih139 x_252 fw139_x_67 _ _ hL1 hl1 ?o548 ?o549 ?o550 ?o551 ?o552 ls ?o553 hW hT hM ffw139_x_67 f_4 f_6 f_8 fjw88_x_71 fq_9 gq_9 (lv_sub hl [0, 1, 2, 3, 4, 5] rfl)
                            case o548 => omega
                            case o549 => omega
                            case o550 => omega
                            case o551 => omega
                            case o552 => omega
                            case o553 => omega
                          · skip
                            refine lv_aload_n hx hb dX10_looks_203 rfl (lv_at hl 2 rfl) ?_
                            refine lv_dup hx hb dX10_looks_204 rfl ?_
                            refine hk_geti hx hb hts hC_10 hown hW (gx.S hM) tt_10 67 ?o554 rfl kw_1210 ⟨rfl, rfl, rfl⟩ ffw139_x_67 dX10_looks_205 ?_
                            case o554 => decide
                            refine lv_aload_n hx hb dX10_looks_208 rfl (lv_at hl 2 rfl) ?_
                            refine hx_getn hx hb hts hC_10 hown hW hT (gx.S hM) tt_10 62 ?o555 rfl kw_1205 ⟨rfl, rfl, rfl⟩ dX10_looks_209 (fun q_254 fq_254 gq_254 => ?_)
                            case o555 => decide
                            refine lv_iload hx hb dX10_looks_212 (lv_at hl 0 rfl) ?_
                            refine hx_iald hx hb hW hT gq_254 tt_95 rfl ⟨?o556, ?o557⟩ dX10_looks_214 (fun x_255 ex_255 lx_255 ux_255 => ?_)
                            case o556 => omega
                            case o557 => omega
                            refine lv_iadd hx hb dX10_looks_215 ?_
                            have rg_256 := i32_r fw139_x_67
                            have rg_257 := i32_r x_255
                            refine lv_topi (fun x_258 ex_258 => ?_)
                            have zx_258 : x_258.toInt = fw139_x_67.toInt + x_255.toInt := ?o558
                            case o558 =>
                              rw [ex_258]
                              refine i32_add rfl rfl ?o559 ?o560
                              case o559 => omega
                              case o560 => omega
                            refine hx_puti hx hb hts hC_10 hown hW hT (hx_S.rf (M := [(10, 67)])) (gx.S hM) tt_10 67 ?o561 rfl kw_1210 ⟨rfl, rfl, rfl⟩ rfl (x := x_258) ⟨?o562, ?o563⟩ rfl rfl rfl (List.mem_singleton.mpr rfl) dX10_looks_216 (fun H locs h_259 eh_259 hW hT hs => ?_)
                            case o561 => decide
                            case o562 => omega
                            case o563 => omega
                            replace f_4 := (hs.o (gx.S hM) trivial rfl).1.trans f_4
                            replace f_6 := (hs.o (gx.S hM) trivial rfl).1.trans f_6
                            replace f_8 := (hs.o (gx.S hM) trivial rfl).1.trans f_8
                            replace fjw88_x_71 := (hs.o (gx.S hM) trivial rfl).1.trans fjw88_x_71
                            replace fq_9 := (hs.o (gx.S hM) trivial rfl).2.trans fq_9
                            replace fx_14 := (hs.o (gx.S hM) trivial rfl).1.trans fx_14
                            replace fq_223 := (hs.o (gx.S hM) trivial rfl).2.trans fq_223
                            replace fq_228 := (hs.o (gx.S hM) trivial rfl).2.trans fq_228
                            replace fq_233 := (hs.o (gx.S hM) trivial rfl).2.trans fq_233
                            replace fq_238 := (hs.o (gx.S hM) trivial rfl).2.trans fq_238
                            replace fq_254 := (hs.o (gx.S hM) trivial rfl).2.trans fq_254
                            replace ex_224 := ex_224.trans (hs.a gq_223 rfl _).1.symm
                            replace ex_229 := ex_229.trans (hs.a gq_228 rfl _).1.symm
                            replace ex_234 := ex_234.trans (hs.a gq_233 rfl _).1.symm
                            replace ex_239 := ex_239.trans (hs.a gq_238 rfl _).1.symm
                            replace ex_255 := ex_255.trans (hs.a gq_254 rfl _).1.symm
                            replace hM := hM.tr (hs.mono ?o564)
                            case o564 => decide
                            replace gq_9 := gq_9.S hs
                            replace gq_223 := gq_223.S hs
                            replace gq_228 := gq_228.S hs
                            replace gq_233 := gq_233.S hs
                            replace gq_238 := gq_238.S hs
                            replace gq_254 := gq_254.S hs
                            have f_260 : h_259.2.1 x 67 = x_258 := ?o565
                            case o565 =>
                              rw [eh_259]
                              exact hx_pi_at _ _ _ _
                            obtain ⟨x_261, ex_261⟩ : ∃ y : Int32, y = iv139_5 + Int32.ofInt 1 := ⟨_, rfl⟩
                            have rg_262 := i32_r iv139_5
                            have zx_261 : x_261.toInt = iv139_5.toInt + (1) := ?o566
                            case o566 =>
                              rw [ex_261]
                              refine i32_add rfl ?o567 ?o568 ?o569
                              case o567 => decide
                              case o568 => omega
                              case o569 => omega
                            refine lv_iinc (v := x_261) (lv' := [(5, .int x_261), (4, .int jv136_4), (0, .ref x), (1, .int i1), (2, .int i2), (3, .int i3)]) hx hb dX10_looks_219 hl (k := 0) rfl ex_261.symm ?o570 rfl (fun ls hl => ?_)
                            case o570 => decide
                            refine lv_goto (tgt := 139) hx hb dX10_looks_222 ?o571 ?_
                            case o571 => decide
                            refine ih139 x_261 x_258 _ _ hL1 h_259 ?o572 ?o573 ?o574 ?o575 ?o576 ls ?o577 hW hT hM f_260 f_4 f_6 f_8 fjw88_x_71 fq_9 gq_9 (lv_sub hl [0, 1, 2, 3, 4, 5] rfl)
                            case o572 => omega
                            case o573 => omega
                            case o574 => omega
                            case o575 => omega
                            case o576 => omega
                            case o577 => omega
            have zk_0 : (0 : Int32).toInt = 0 := ?o578
            case o578 => decide
            have zk_0 : (0 : Int32).toInt = 0 := ?o579
            case o579 => decide
            refine loop139 601 (0 : Int32) (0 : Int32) _ _ hL1 hl1 ?o580 ?o581 ?o582 ?o583 ?o584 ls ?o585 hW hT hM f_2 f_4 f_6 f_8 fjw88_x_71 fq_9 gq_9 hl
            case o580 => decide
            case o581 => decide
            case o582 => decide
            case o583 => decide
            case o584 => omega
            case o585 => omega
          refine lv_aload_n hx hb dX10_looks_109 rfl (lv_at hl 0 rfl) ?_
          refine hx_getn hx hb hts hC_10 hown hW hT (gx.S hM) tt_10 49 ?o586 rfl kw_1192 ⟨rfl, rfl, rfl⟩ dX10_looks_110 (fun q_263 fq_263 gq_263 => ?_)
          case o586 => decide
          refine lv_iload_n hx hb dX10_looks_113 rfl (lv_at hl 1 rfl) ?_
          refine hx_iald hx hb hW hT gq_263 tt_84 rfl ⟨?o587, ?o588⟩ dX10_looks_114 (fun x_264 ex_264 lx_264 ux_264 => ?_)
          case o587 => omega
          case o588 => omega
          refine lv_iconst (v := -1) hx hb dX10_looks_115 ?o589 ?_
          case o589 => decide
          refine hb_icmp_eq (zx := x_264.toInt) (zy := (-1)) (tgt := 133) hx hb rfl ?o590 dX10_looks_116 ?o591 (fun c_265 => ?_) (fun c_265 => ?_)
          case o590 => decide
          case o591 => decide
          · skip
            refine lv_iconst (v := 0) hx hb dX10_looks_133 ?o592 ?_
            case o592 => decide
            refine lv_istore (lv' := [(4, .int (0 : Int32)), (0, .ref x), (1, .int i1), (2, .int i2), (3, .int i3)]) hx hb dX10_looks_134 hl ?o593 rfl (fun ls hl => ?_)
            case o593 => decide
            have zk_0 : (0 : Int32).toInt = 0 := ?o594
            case o594 => decide
            refine join136 (0 : Int32) _ _ hL1 hl1 ?o595 ?o596  ls hW hT hM f_2 f_4 f_6 f_8 fjw88_x_71 fq_9 gq_9 (lv_sub hl [0, 1, 2, 3, 4] rfl)
            case o595 => decide
            case o596 => decide
          · skip
            refine lv_aload_n hx hb dX10_looks_119 rfl (lv_at hl 0 rfl) ?_
            refine hk_getr hx hb hts hC_10 hown hW (gx.S hM) tt_10 49 ?o597 rfl kw_1192 ⟨rfl, rfl, rfl⟩ fq_263 dX10_looks_120 ?_
            case o597 => decide
            refine lv_iload_n hx hb dX10_looks_123 rfl (lv_at hl 1 rfl) ?_
            refine hx_iald hx hb hW hT gq_263 tt_84 rfl ⟨?o598, ?o599⟩ dX10_looks_124 (fun x_266 ex_266 lx_266 ux_266 => ?_)
            case o598 => omega
            case o599 => omega
            obtain rfl : x_264 = x_266 := ex_264.trans ex_266.symm
            refine lv_iload_n hx hb dX10_looks_125 rfl (lv_at hl 2 rfl) ?_
            have jn_134 : ∀ (xj_267 : Int32) (ls : Array Slot), 0 ≤ xj_267.toInt → xj_267.toInt ≤ 1 → lv_has ls 9 [(0, .ref x), (1, .int i1), (2, .int i2), (3, .int i3)] → W p l e ({ frames := 1, cells := 0, slots := 0, locals := 22 }) s m ([.ref x, .int i1, .int i2, .int i3] : List Value).toArray below meth c H locs 0 0 (MQ below (va_Qv (fun (u : List Nat × hx_h) => (∃ (rs1 : Int32) (st1 : Int32) (pd1 : Int32), u.2.2.1 x 68 = rs1 ∧ u.2.2.1 x 71 = st1 ∧ u.2.2.1 x 67 = pd1 ∧ (4 ≤ st1.toInt ∧ st1.toInt ≤ 6 → 1 ≤ rs1.toInt)) ∧ hx_T T_tb u.1 u.2 ∧ hx_S T_tb [(10, 67), (10, 68), (10, 69), (10, 70), (10, 71)] L h u.1 u.2) (hx_E T_tb (P_ty dA) (dC, dI) vwCl (hx_A L sz)) (hx_A L sz)) ([.ref x, .int i1, .int i2, .int i3] : List Value).toArray s 0 0 (hx_A L sz)) (F0 m 134 ls [.int xj_267]) := by
              intro xj_267 ls blxj_267 buxj_267 hl
              refine lv_istore (lv' := [(4, .int xj_267), (0, .ref x), (1, .int i1), (2, .int i2), (3, .int i3)]) hx hb dX10_looks_134 hl ?o600 rfl (fun ls hl => ?_)
              case o600 => decide
              refine join136 xj_267 _ _ hL1 hl1 ?o601 ?o602  ls hW hT hM f_2 f_4 f_6 f_8 fjw88_x_71 fq_9 gq_9 (lv_sub hl [0, 1, 2, 3, 4] rfl)
              case o601 => omega
              case o602 => omega
            refine hb_icmp_gt (zx := x_264.toInt) (zy := i2.toInt) (tgt := 133) hx hb rfl rfl dX10_looks_126 ?o603 (fun c_268 => ?_) (fun c_268 => ?_)
            case o603 => decide
            · skip
              refine lv_iconst (v := 0) hx hb dX10_looks_133 ?o604 ?_
              case o604 => decide
              refine jn_134 (0 : Int32) ls ?o605 ?o606 hl
              case o605 => decide
              case o606 => decide
            · skip
              refine lv_iconst (v := 1) hx hb dX10_looks_129 ?o607 ?_
              case o607 => decide
              refine lv_goto (tgt := 134) hx hb dX10_looks_130 ?o608 ?_
              case o608 => decide
              refine jn_134 (1 : Int32) ls ?o609 ?o610 hl
              case o609 => decide
              case o610 => decide
        · skip
          have zo_0 : (0 : Int32).toInt = 0 := ?o611
          case o611 => decide
          have zo_0 : (0 : Int32).toInt = 0 := ?o612
          case o612 => decide
          exact hx_retv hx hb hr hlk hW ⟨⟨(0 : Int32), jw88_x_71, (0 : Int32), f_4, fjw88_x_71, f_2, (by first | omega | (refine ⟨?_, ?_⟩ <;> omega))⟩, hT, hM⟩ dX10_looks_108
    refine lv_aload_n hx hb dX10_looks_49 rfl (lv_at hl 0 rfl) ?_
    refine hx_getn hx hb hts hC_10 hown hW hT (gx.S hM) tt_10 47 ?o613 rfl kw_1190 ⟨rfl, rfl, rfl⟩ dX10_looks_50 (fun q_269 fq_269 gq_269 => ?_)
    case o613 => decide
    refine lv_iload_n hx hb dX10_looks_53 rfl (lv_at hl 1 rfl) ?_
    refine hx_iald hx hb hW hT gq_269 tt_82 rfl ⟨?o614, ?o615⟩ dX10_looks_54 (fun x_270 ex_270 lx_270 ux_270 => ?_)
    case o614 => omega
    case o615 => omega
    refine lv_iconst (v := -1) hx hb dX10_looks_55 ?o616 ?_
    case o616 => decide
    refine hb_icmp_eq (zx := x_270.toInt) (zy := (-1)) (tgt := 88) hx hb rfl ?o617 dX10_looks_56 ?o618 (fun c_271 => ?_) (fun c_271 => ?_)
    case o617 => decide
    case o618 => decide
    · skip
      refine join88 jw49_x_71 _ _ hL1 hl1 ?o619 ?o620 ?o621 ls hW hT hM fjw49_x_71 f_2 f_4 f_6 f_8  (lv_sub hl [0, 1, 2, 3] rfl)
      case o619 => omega
      case o620 => omega
      case o621 => omega
    · skip
      refine lv_aload_n hx hb dX10_looks_59 rfl (lv_at hl 0 rfl) ?_
      refine hk_getr hx hb hts hC_10 hown hW (gx.S hM) tt_10 47 ?o622 rfl kw_1190 ⟨rfl, rfl, rfl⟩ fq_269 dX10_looks_60 ?_
      case o622 => decide
      refine lv_iload_n hx hb dX10_looks_63 rfl (lv_at hl 1 rfl) ?_
      refine hx_iald hx hb hW hT gq_269 tt_82 rfl ⟨?o623, ?o624⟩ dX10_looks_64 (fun x_272 ex_272 lx_272 ux_272 => ?_)
      case o623 => omega
      case o624 => omega
      obtain rfl : x_270 = x_272 := ex_270.trans ex_272.symm
      refine lv_iload_n hx hb dX10_looks_65 rfl (lv_at hl 2 rfl) ?_
      refine hb_icmp_gt (zx := x_270.toInt) (zy := i2.toInt) (tgt := 88) hx hb rfl rfl dX10_looks_66 ?o625 (fun c_273 => ?_) (fun c_273 => ?_)
      case o625 => decide
      · skip
        refine join88 jw49_x_71 _ _ hL1 hl1 ?o626 ?o627 ?o628 ls hW hT hM fjw49_x_71 f_2 f_4 f_6 f_8  (lv_sub hl [0, 1, 2, 3] rfl)
        case o626 => omega
        case o627 => omega
        case o628 => omega
      · skip
        refine lv_aload_n hx hb dX10_looks_69 rfl (lv_at hl 0 rfl) ?_
        refine lv_aload_n hx hb dX10_looks_70 rfl (lv_at hl 0 rfl) ?_
        refine hx_getn hx hb hts hC_10 hown hW hT (gx.S hM) tt_10 51 ?o629 rfl kw_1194 ⟨rfl, rfl, rfl⟩ dX10_looks_71 (fun q_274 fq_274 gq_274 => ?_)
        case o629 => decide
        refine lv_iload_n hx hb dX10_looks_74 rfl (lv_at hl 1 rfl) ?_
        refine hx_iald hx hb hW hT gq_274 tt_86 rfl ⟨?o630, ?o631⟩ dX10_looks_75 (fun x_275 ex_275 lx_275 ux_275 => ?_)
        case o630 => omega
        case o631 => omega
        refine lv_iconst (v := 5) hx hb dX10_looks_76 ?o632 ?_
        case o632 => decide
        have jn_85 : ∀ (xj_276 : Int32) (ls : Array Slot), 2 ≤ xj_276.toInt → xj_276.toInt ≤ 3 → lv_has ls 9 [(0, .ref x), (1, .int i1), (2, .int i2), (3, .int i3)] → W p l e ({ frames := 1, cells := 0, slots := 0, locals := 22 }) s m ([.ref x, .int i1, .int i2, .int i3] : List Value).toArray below meth c H locs 0 0 (MQ below (va_Qv (fun (u : List Nat × hx_h) => (∃ (rs1 : Int32) (st1 : Int32) (pd1 : Int32), u.2.2.1 x 68 = rs1 ∧ u.2.2.1 x 71 = st1 ∧ u.2.2.1 x 67 = pd1 ∧ (4 ≤ st1.toInt ∧ st1.toInt ≤ 6 → 1 ≤ rs1.toInt)) ∧ hx_T T_tb u.1 u.2 ∧ hx_S T_tb [(10, 67), (10, 68), (10, 69), (10, 70), (10, 71)] L h u.1 u.2) (hx_E T_tb (P_ty dA) (dC, dI) vwCl (hx_A L sz)) (hx_A L sz)) ([.ref x, .int i1, .int i2, .int i3] : List Value).toArray s 0 0 (hx_A L sz)) (F0 m 85 ls [.int xj_276, .ref x]) := by
          intro xj_276 ls blxj_276 buxj_276 hl
          refine hx_puti hx hb hts hC_10 hown hW hT (hx_S.rf (M := [(10, 71)])) (gx.S hM) tt_10 71 ?o633 rfl kw_1214 ⟨rfl, rfl, rfl⟩ rfl (x := xj_276) ⟨?o634, ?o635⟩ rfl rfl rfl (List.mem_singleton.mpr rfl) dX10_looks_85 (fun H locs h_277 eh_277 hW hT hs => ?_)
          case o633 => decide
          case o634 => omega
          case o635 => omega
          replace f_2 := (hs.o (gx.S hM) trivial rfl).1.trans f_2
          replace f_4 := (hs.o (gx.S hM) trivial rfl).1.trans f_4
          replace f_6 := (hs.o (gx.S hM) trivial rfl).1.trans f_6
          replace f_8 := (hs.o (gx.S hM) trivial rfl).1.trans f_8
          replace fq_269 := (hs.o (gx.S hM) trivial rfl).2.trans fq_269
          replace fq_274 := (hs.o (gx.S hM) trivial rfl).2.trans fq_274
          replace ex_270 := ex_270.trans (hs.a gq_269 rfl _).1.symm
          replace ex_275 := ex_275.trans (hs.a gq_274 rfl _).1.symm
          replace hM := hM.tr (hs.mono ?o636)
          case o636 => decide
          replace gq_269 := gq_269.S hs
          replace gq_274 := gq_274.S hs
          have f_278 : h_277.2.1 x 71 = xj_276 := ?o637
          case o637 =>
            rw [eh_277]
            exact hx_pi_at _ _ _ _
          refine join88 xj_276 _ _ hL1 h_277 ?o638 ?o639 ?o640 ls hW hT hM f_278 f_2 f_4 f_6 f_8  (lv_sub hl [0, 1, 2, 3] rfl)
          case o638 => omega
          case o639 => omega
          case o640 => omega
        refine hb_icmp_ne (zx := x_275.toInt) (zy := 5) (tgt := 84) hx hb rfl ?o641 dX10_looks_77 ?o642 (fun c_279 => ?_) (fun c_279 => ?_)
        case o641 => decide
        case o642 => decide
        · skip
          refine lv_iconst (v := 2) hx hb dX10_looks_84 ?o643 ?_
          case o643 => decide
          refine jn_85 (2 : Int32) ls ?o644 ?o645 hl
          case o644 => decide
          case o645 => decide
        · skip
          refine lv_iconst (v := 3) hx hb dX10_looks_80 ?o646 ?_
          case o646 => decide
          refine lv_goto (tgt := 85) hx hb dX10_looks_81 ?o647 ?_
          case o647 => decide
          refine jn_85 (3 : Int32) ls ?o648 ?o649 hl
          case o648 => decide
          case o649 => decide
  refine lv_aload_n hx hb dX10_looks_20 rfl (lv_at hl 0 rfl) ?_
  refine lv_aload_n hx hb dX10_looks_21 rfl (lv_at hl 0 rfl) ?_
  refine hx_getn hx hb hts hC_10 hown hW hT (gx.S hM) tt_10 46 ?o650 rfl kw_1189 ⟨rfl, rfl, rfl⟩ dX10_looks_22 (fun q_280 fq_280 gq_280 => ?_)
  case o650 => decide
  refine lv_iload_n hx hb dX10_looks_25 rfl (lv_at hl 1 rfl) ?_
  refine hx_iald hx hb hW hT gq_280 tt_81 rfl ⟨?o651, ?o652⟩ dX10_looks_26 (fun x_281 ex_281 lx_281 ux_281 => ?_)
  case o651 => omega
  case o652 => omega
  refine lv_iconst (v := -1) hx hb dX10_looks_27 ?o653 ?_
  case o653 => decide
  refine hb_icmp_eq (zx := x_281.toInt) (zy := (-1)) (tgt := 45) hx hb rfl ?o654 dX10_looks_28 ?o655 (fun c_282 => ?_) (fun c_282 => ?_)
  case o654 => decide
  case o655 => decide
  · skip
    refine lv_iconst (v := 0) hx hb dX10_looks_45 ?o656 ?_
    case o656 => decide
    refine hx_puti hx hb hts hC_10 hown hW hT (hx_S.rf (M := [(10, 71)])) (gx.S hM) tt_10 71 ?o657 rfl kw_1214 ⟨rfl, rfl, rfl⟩ rfl (x := (0 : Int32)) ?o658 rfl rfl rfl (List.mem_singleton.mpr rfl) dX10_looks_46 (fun H locs h_283 eh_283 hW hT hs => ?_)
    case o657 => decide
    case o658 => decide
    replace f_2 := (hs.o (gx.S hM) trivial rfl).1.trans f_2
    replace f_4 := (hs.o (gx.S hM) trivial rfl).1.trans f_4
    replace f_6 := (hs.o (gx.S hM) trivial rfl).1.trans f_6
    replace f_8 := (hs.o (gx.S hM) trivial rfl).1.trans f_8
    replace fq_280 := (hs.o (gx.S hM) trivial rfl).2.trans fq_280
    replace ex_281 := ex_281.trans (hs.a gq_280 rfl _).1.symm
    replace hM := hM.tr (hs.mono ?o659)
    case o659 => decide
    replace gq_280 := gq_280.S hs
    have f_284 : h_283.2.1 x 71 = (0 : Int32) := ?o660
    case o660 =>
      rw [eh_283]
      exact hx_pi_at _ _ _ _
    have zk_0 : (0 : Int32).toInt = 0 := ?o661
    case o661 => decide
    refine join49 (0 : Int32) _ _ L h_283 ?o662 ?o663 ?o664 ls hW hT hM f_284 f_2 f_4 f_6 f_8  (lv_sub hl [0, 1, 2, 3] rfl)
    case o662 => decide
    case o663 => decide
    case o664 => omega
  · skip
    refine lv_aload_n hx hb dX10_looks_31 rfl (lv_at hl 0 rfl) ?_
    refine hk_getr hx hb hts hC_10 hown hW (gx.S hM) tt_10 46 ?o665 rfl kw_1189 ⟨rfl, rfl, rfl⟩ fq_280 dX10_looks_32 ?_
    case o665 => decide
    refine lv_iload_n hx hb dX10_looks_35 rfl (lv_at hl 1 rfl) ?_
    refine hx_iald hx hb hW hT gq_280 tt_81 rfl ⟨?o666, ?o667⟩ dX10_looks_36 (fun x_285 ex_285 lx_285 ux_285 => ?_)
    case o666 => omega
    case o667 => omega
    obtain rfl : x_281 = x_285 := ex_281.trans ex_285.symm
    refine lv_iload_n hx hb dX10_looks_37 rfl (lv_at hl 2 rfl) ?_
    have jn_46 : ∀ (xj_286 : Int32) (ls : Array Slot), 0 ≤ xj_286.toInt → xj_286.toInt ≤ 1 → lv_has ls 9 [(0, .ref x), (1, .int i1), (2, .int i2), (3, .int i3)] → W p l e ({ frames := 1, cells := 0, slots := 0, locals := 22 }) s m ([.ref x, .int i1, .int i2, .int i3] : List Value).toArray below meth c H locs 0 0 (MQ below (va_Qv (fun (u : List Nat × hx_h) => (∃ (rs1 : Int32) (st1 : Int32) (pd1 : Int32), u.2.2.1 x 68 = rs1 ∧ u.2.2.1 x 71 = st1 ∧ u.2.2.1 x 67 = pd1 ∧ (4 ≤ st1.toInt ∧ st1.toInt ≤ 6 → 1 ≤ rs1.toInt)) ∧ hx_T T_tb u.1 u.2 ∧ hx_S T_tb [(10, 67), (10, 68), (10, 69), (10, 70), (10, 71)] L h u.1 u.2) (hx_E T_tb (P_ty dA) (dC, dI) vwCl (hx_A L sz)) (hx_A L sz)) ([.ref x, .int i1, .int i2, .int i3] : List Value).toArray s 0 0 (hx_A L sz)) (F0 m 46 ls [.int xj_286, .ref x]) := by
      intro xj_286 ls blxj_286 buxj_286 hl
      refine hx_puti hx hb hts hC_10 hown hW hT (hx_S.rf (M := [(10, 71)])) (gx.S hM) tt_10 71 ?o668 rfl kw_1214 ⟨rfl, rfl, rfl⟩ rfl (x := xj_286) ⟨?o669, ?o670⟩ rfl rfl rfl (List.mem_singleton.mpr rfl) dX10_looks_46 (fun H locs h_287 eh_287 hW hT hs => ?_)
      case o668 => decide
      case o669 => omega
      case o670 => omega
      replace f_2 := (hs.o (gx.S hM) trivial rfl).1.trans f_2
      replace f_4 := (hs.o (gx.S hM) trivial rfl).1.trans f_4
      replace f_6 := (hs.o (gx.S hM) trivial rfl).1.trans f_6
      replace f_8 := (hs.o (gx.S hM) trivial rfl).1.trans f_8
      replace fq_280 := (hs.o (gx.S hM) trivial rfl).2.trans fq_280
      replace ex_281 := ex_281.trans (hs.a gq_280 rfl _).1.symm
      replace hM := hM.tr (hs.mono ?o671)
      case o671 => decide
      replace gq_280 := gq_280.S hs
      have f_288 : h_287.2.1 x 71 = xj_286 := ?o672
      case o672 =>
        rw [eh_287]
        exact hx_pi_at _ _ _ _
      refine join49 xj_286 _ _ L h_287 ?o673 ?o674 ?o675 ls hW hT hM f_288 f_2 f_4 f_6 f_8  (lv_sub hl [0, 1, 2, 3] rfl)
      case o673 => omega
      case o674 => omega
      case o675 => omega
    refine hb_icmp_gt (zx := x_281.toInt) (zy := i2.toInt) (tgt := 45) hx hb rfl rfl dX10_looks_38 ?o676 (fun c_289 => ?_) (fun c_289 => ?_)
    case o676 => decide
    · skip
      refine lv_iconst (v := 0) hx hb dX10_looks_45 ?o677 ?_
      case o677 => decide
      refine jn_46 (0 : Int32) ls ?o678 ?o679 hl
      case o678 => decide
      case o679 => decide
    · skip
      refine lv_iconst (v := 1) hx hb dX10_looks_41 ?o680 ?_
      case o680 => decide
      refine lv_goto (tgt := 46) hx hb dX10_looks_42 ?o681 ?_
      case o681 => decide
      refine jn_46 (1 : Int32) ls ?o682 ?o683 hl
      case o682 => decide
      case o683 => decide
end
section
theorem dX10_isOpen_0 : decode cX10_isOpen 0 = .ok (.aload_n 0, 1) := by decide +kernel
theorem dX10_isOpen_1 : decode cX10_isOpen 1 = .ok (.iload_n 1, 1) := by decide +kernel
theorem dX10_isOpen_2 : decode cX10_isOpen 2 = .ok (.aload_n 0, 1) := by decide +kernel
theorem dX10_isOpen_3 : decode cX10_isOpen 3 = .ok (.getfield 232, 3) := by decide +kernel
theorem dX10_isOpen_6 : decode cX10_isOpen 6 = .ok (.aload_n 0, 1) := by decide +kernel
theorem dX10_isOpen_7 : decode cX10_isOpen 7 = .ok (.getfield 232, 3) := by decide +kernel
theorem dX10_isOpen_10 : decode cX10_isOpen 10 = .ok (.invokevirtual 416, 3) := by decide +kernel
theorem dX10_isOpen_13 : decode cX10_isOpen 13 = .ok (.aload_n 0, 1) := by decide +kernel
theorem dX10_isOpen_14 : decode cX10_isOpen 14 = .ok (.getfield 410, 3) := by decide +kernel
theorem dX10_isOpen_17 : decode cX10_isOpen 17 = .ok (.iconst 4, 1) := by decide +kernel
theorem dX10_isOpen_18 : decode cX10_isOpen 18 = .ok (.bipush 6, 2) := by decide +kernel
theorem dX10_isOpen_20 : decode cX10_isOpen 20 = .ok (.invokestatic 228, 3) := by decide +kernel
theorem dX10_isOpen_23 : decode cX10_isOpen 23 = .ok (.ireturn, 1) := by decide +kernel
set_option maxHeartbeats 4000000 in
set_option maxRecDepth 100000 in
theorem t_X10_isOpen (l : Launch) (dC : Nat → ClassId) (dI : Nat → Nat → Nat) (dA : Nat → ClassId) (L : List Nat) (h : hx_h) (sz : Nat) (x : Nat) (i1 : Int32) (hT : hx_T T_tb L h) (gx : hx_g L h x 10) (hi1 : 0 ≤ i1.toInt ∧ i1.toInt ≤ 99) : Met l yX10_isOpen (Cond.code yX10_isOpen cX10_isOpen 2 (some .boolean) :: hx_all) ({ frames := 2, cells := 0, slots := 0, locals := 50 }) (va_Pc [.ref x, .int i1] (hx_B T_tb (P_ty dA) (dC, dI) vwCl L h sz)) (va_Qi (fun (r : Int32) (u : List Nat × hx_h) => (∃ (rs1 : Int32), u.2.2.1 x 68 = rs1 ∧ ((r.toInt = 0 ∨ r.toInt = 1) ∧ (r.toInt = 1 → 1 ≤ rs1.toInt))) ∧ hx_T T_tb u.1 u.2 ∧ hx_S T_tb [(10, 67), (10, 68), (10, 69), (10, 70), (10, 71)] L h u.1 u.2) (hx_E T_tb (P_ty dA) (dC, dI) vwCl (hx_A L sz)) (hx_A L sz)) 0 0 (hx_A L sz) := by
  refine hx_met (lv := [(0, .ref x), (1, .int i1)]) (by decide +kernel) rfl (Nat.le_of_ble_eq_true rfl) rfl ?_
  intro p e s m below meth c hx hb hml hr hlk hts0 hown hin hsz hW ls hl
  have hts : ∀ w ∈ hx_all, w.before _ s = true := fun w hw => hts0 w (List.mem_cons_of_mem _ hw)
  have hown : s.vm.findClass "SmallCourtModel" = some m.cls := hown
  have hM : hx_S T_tb [(10, 67), (10, 68), (10, 69), (10, 70), (10, 71)] L h L h := hx_S.rf
  refine lv_aload_n hx hb dX10_isOpen_0 rfl (lv_at hl 0 rfl) ?_
  refine lv_iload_n hx hb dX10_isOpen_1 rfl (lv_at hl 1 rfl) ?_
  refine lv_aload_n hx hb dX10_isOpen_2 rfl (lv_at hl 0 rfl) ?_
  refine hx_geti hx hb hts hC_10 hown hW hT (gx.S hM) tt_10 0 ?o0 rfl kw_1143 ⟨rfl, rfl, rfl⟩ dX10_isOpen_3 (fun x_1 ex_1 lx_1 ux_1 => ?_)
  case o0 => decide
  have fx_1 := ex_1.symm
  refine lv_aload_n hx hb dX10_isOpen_6 rfl (lv_at hl 0 rfl) ?_
  refine hk_geti hx hb hts hC_10 hown hW (gx.S hM) tt_10 0 ?o1 rfl kw_1143 ⟨rfl, rfl, rfl⟩ fx_1 dX10_isOpen_7 ?_
  case o1 => decide
  refine hx_gov (hx_runV (As := [.int i1, .int x_1, .int x_1]) (rest := []) ⟨hx, hb, hml, hown, hts⟩ hW (gx.S hM) tt_10 (T := TX10) (N := 98) rfl (t_X10_looks l dC dI dA L h s.heap.size x i1 x_1 x_1 hT (gx.S hM) ⟨?o2, ?o3⟩) (cwV 3 hts (hx_gV kw_1641 kw_1638 kw_1640 kw_82 kw_103) rfl rfl rfl (by decide +kernel) ⟨Nat.le_of_ble_eq_true rfl, Nat.le_of_ble_eq_true rfl⟩) rfl hl.1 rfl (Nat.le_of_ble_eq_true rfl) dX10_isOpen_10 ⟨Nat.le_of_ble_eq_true rfl, Nat.le_of_ble_eq_true rfl⟩) hW (fun L_2 h_3 H locs p_5 hW => ?_)
  case o2 => omega
  case o3 => omega
  obtain ⟨⟨w_7, w_8, w_9, fw_7, fw_8, fw_9, hr_6⟩, hT, hs⟩ := p_5
  replace hT : hx_T T_tb L_2 h_3 := hT
  replace hs : hx_S T_tb [(10, 67), (10, 68), (10, 69), (10, 70), (10, 71)] L h L_2 h_3 := hs
  replace fx_1 := (hs.o (gx.S hM) trivial rfl).1.trans fx_1
  replace hM := hM.tr (hs.mono ?o4)
  case o4 => decide
  have fw_7 : h_3.2.1 x 68 = w_7 := fw_7
  have bw_7 := hT.gi (gx.S hM) tt_10 (k := 68) rfl
  rw [fw_7] at bw_7
  have bw_7 : 0 ≤ w_7.toInt ∧ w_7.toInt ≤ 610000 := bw_7
  have fw_8 : h_3.2.1 x 71 = w_8 := fw_8
  have bw_8 := hT.gi (gx.S hM) tt_10 (k := 71) rfl
  rw [fw_8] at bw_8
  have bw_8 : 0 ≤ w_8.toInt ∧ w_8.toInt ≤ 8 := bw_8
  have fw_9 : h_3.2.1 x 67 = w_9 := fw_9
  have bw_9 := hT.gi (gx.S hM) tt_10 (k := 67) rfl
  rw [fw_9] at bw_9
  have bw_9 : 0 ≤ w_9.toInt ∧ w_9.toInt ≤ 366100000 := bw_9
  refine lv_aload_n hx hb dX10_isOpen_13 rfl (lv_at hl 0 rfl) ?_
  refine hk_geti hx hb hts hC_10 hown hW (gx.S hM) tt_10 71 ?o5 rfl kw_1214 ⟨rfl, rfl, rfl⟩ fw_8 dX10_isOpen_14 ?_
  case o5 => decide
  refine lv_iconst (v := 4) hx hb dX10_isOpen_17 ?o6 ?_
  case o6 => decide
  refine lv_bipush (v := 6) hx hb dX10_isOpen_18 ?o7 ?_
  case o7 => decide
  have zc_6 : (6 : Int32).toInt = 6 := ?o8
  case o8 => decide
  have zc_4 : (4 : Int32).toInt = 4 := ?o9
  case o9 => decide
  refine hx_goi (hx_runS (As := [.int w_8, .int (4 : Int32), .int (6 : Int32)]) (rest := []) ⟨hx, hb, hml, hown, hts⟩ hW (t_X10_in l dC dI dA L_2 h_3 H.size w_8 (4 : Int32) (6 : Int32) hT) (va_cwS 3 hts (hx_gS kw_1445 kw_1443 kw_1444 kw_103) rfl rfl rfl (by decide +kernel) ⟨Nat.le_of_ble_eq_true rfl, Nat.le_of_ble_eq_true rfl⟩) rfl hl.1 rfl (Nat.le_of_ble_eq_true rfl) dX10_isOpen_20 ⟨Nat.le_of_ble_eq_true rfl, Nat.le_of_ble_eq_true rfl⟩) hW (fun r_12 L_10 h_11 H locs p_13 hW => ?_)
  obtain ⟨hr_14, hT, hs⟩ := p_13
  replace hT : hx_T T_tb L_10 h_11 := hT
  replace hs : hx_S T_tb [] L_2 h_3 L_10 h_11 := hs
  replace fx_1 := (hs.o (gx.S hM) trivial rfl).1.trans fx_1
  replace fw_7 := (hs.o (gx.S hM) trivial rfl).1.trans fw_7
  replace fw_8 := (hs.o (gx.S hM) trivial rfl).1.trans fw_8
  replace fw_9 := (hs.o (gx.S hM) trivial rfl).1.trans fw_9
  replace hM := hM.tr (hs.mono ?o10)
  case o10 => decide
  exact hx_retz hx hb hr (hx_nar01 (by omega)) hlk hW ⟨⟨w_7, fw_7, (by first | omega | (refine ⟨?_, ?_⟩ <;> omega))⟩, hT, hM⟩ dX10_isOpen_23

theorem dX10_means_0 : decode cX10_means 0 = .ok (.aload_n 0, 1) := by decide +kernel
theorem dX10_means_1 : decode cX10_means 1 = .ok (.getfield 41, 3) := by decide +kernel
theorem dX10_means_4 : decode cX10_means 4 = .ok (.iload_n 1, 1) := by decide +kernel
theorem dX10_means_5 : decode cX10_means 5 = .ok (.iaload, 1) := by decide +kernel
theorem dX10_means_6 : decode cX10_means 6 = .ok (.aload_n 0, 1) := by decide +kernel
theorem dX10_means_7 : decode cX10_means 7 = .ok (.iload_n 2, 1) := by decide +kernel
theorem dX10_means_8 : decode cX10_means 8 = .ok (.iconst 3, 1) := by decide +kernel
theorem dX10_means_9 : decode cX10_means 9 = .ok (.invokevirtual 333, 3) := by decide +kernel
theorem dX10_means_12 : decode cX10_means 12 = .ok (.aload_n 0, 1) := by decide +kernel
theorem dX10_means_13 : decode cX10_means 13 = .ok (.getfield 44, 3) := by decide +kernel
theorem dX10_means_16 : decode cX10_means 16 = .ok (.iload_n 1, 1) := by decide +kernel
theorem dX10_means_17 : decode cX10_means 17 = .ok (.iaload, 1) := by decide +kernel
theorem dX10_means_18 : decode cX10_means 18 = .ok (.imul, 1) := by decide +kernel
theorem dX10_means_19 : decode cX10_means 19 = .ok (.isub, 1) := by decide +kernel
theorem dX10_means_20 : decode cX10_means 20 = .ok (.ireturn, 1) := by decide +kernel
set_option maxHeartbeats 4000000 in
set_option maxRecDepth 100000 in
theorem t_X10_means (l : Launch) (dC : Nat → ClassId) (dI : Nat → Nat → Nat) (dA : Nat → ClassId) (L : List Nat) (h : hx_h) (sz : Nat) (x : Nat) (i1 : Int32) (i2 : Int32) (hT : hx_T T_tb L h) (gx : hx_g L h x 10) (hi1 : 0 ≤ i1.toInt ∧ i1.toInt ≤ 39) (hi2 : 0 ≤ i2.toInt ∧ i2.toInt ≤ 8) : Met l yX10_means (Cond.code yX10_means cX10_means 3 (some .int) :: hx_all) ({ frames := 1, cells := 0, slots := 0, locals := 22 }) (va_Pc [.ref x, .int i1, .int i2] (hx_B T_tb (P_ty dA) (dC, dI) vwCl L h sz)) (va_Qi (fun (r : Int32) (u : List Nat × hx_h) => (True) ∧ hx_T T_tb u.1 u.2 ∧ hx_S T_tb [] L h u.1 u.2) (hx_E T_tb (P_ty dA) (dC, dI) vwCl (hx_A L sz)) (hx_A L sz)) 0 0 (hx_A L sz) := by
  refine hx_met (lv := [(0, .ref x), (1, .int i1), (2, .int i2)]) (by decide +kernel) rfl (Nat.le_of_ble_eq_true rfl) rfl ?_
  intro p e s m below meth c hx hb hml hr hlk hts0 hown hin hsz hW ls hl
  have hts : ∀ w ∈ hx_all, w.before _ s = true := fun w hw => hts0 w (List.mem_cons_of_mem _ hw)
  have hown : s.vm.findClass "SmallCourtModel" = some m.cls := hown
  have hM : hx_S T_tb [] L h L h := hx_S.rf
  refine lv_aload_n hx hb dX10_means_0 rfl (lv_at hl 0 rfl) ?_
  refine hx_getn hx hb hts hC_10 hown hW hT (gx.S hM) tt_10 22 ?o0 rfl kw_1165 ⟨rfl, rfl, rfl⟩ dX10_means_1 (fun q_1 fq_1 gq_1 => ?_)
  case o0 => decide
  refine lv_iload_n hx hb dX10_means_4 rfl (lv_at hl 1 rfl) ?_
  refine hx_iald hx hb hW hT gq_1 tt_59 rfl ⟨?o1, ?o2⟩ dX10_means_5 (fun x_2 ex_2 lx_2 ux_2 => ?_)
  case o1 => omega
  case o2 => omega
  refine lv_aload_n hx hb dX10_means_6 rfl (lv_at hl 0 rfl) ?_
  refine lv_iload_n hx hb dX10_means_7 rfl (lv_at hl 2 rfl) ?_
  refine lv_iconst (v := 3) hx hb dX10_means_8 ?o3 ?_
  case o3 => decide
  have zc_3 : (3 : Int32).toInt = 3 := ?o4
  case o4 => decide
  refine hx_goi (hx_runV (As := [.int i2, .int (3 : Int32)]) (rest := [.int x_2]) ⟨hx, hb, hml, hown, hts⟩ hW (gx.S hM) tt_10 (T := TX10) (N := 98) rfl (t_X10_ruleOf l dC dI dA L h s.heap.size x i2 (3 : Int32) hT (gx.S hM) ⟨?o5, ?o6⟩ ?o7) (cwV 2 hts (hx_gV kw_1533 kw_1530 kw_1532 kw_66 kw_103) rfl rfl rfl (by decide +kernel) ⟨Nat.le_of_ble_eq_true rfl, Nat.le_of_ble_eq_true rfl⟩) rfl hl.1 rfl (Nat.le_of_ble_eq_true rfl) dX10_means_9 ⟨Nat.le_of_ble_eq_true rfl, Nat.le_of_ble_eq_true rfl⟩) hW (fun r_5 L_3 h_4 H locs p_6 hW => ?_)
  case o5 => omega
  case o6 => omega
  case o7 => decide
  obtain ⟨hr_7, hT, hs⟩ := p_6
  replace hT : hx_T T_tb L_3 h_4 := hT
  replace hs : hx_S T_tb [] L h L_3 h_4 := hs
  replace fq_1 := (hs.o (gx.S hM) trivial rfl).2.trans fq_1
  replace ex_2 := ex_2.trans (hs.a gq_1 rfl _).1.symm
  replace hM := hM.tr (hs.mono ?o8)
  case o8 => decide
  replace gq_1 := gq_1.S hs
  refine lv_aload_n hx hb dX10_means_12 rfl (lv_at hl 0 rfl) ?_
  refine hx_getn hx hb hts hC_10 hown hW hT (gx.S hM) tt_10 23 ?o9 rfl kw_1166 ⟨rfl, rfl, rfl⟩ dX10_means_13 (fun q_8 fq_8 gq_8 => ?_)
  case o9 => decide
  refine lv_iload_n hx hb dX10_means_16 rfl (lv_at hl 1 rfl) ?_
  refine hx_iald hx hb hW hT gq_8 tt_60 rfl ⟨?o10, ?o11⟩ dX10_means_17 (fun x_9 ex_9 lx_9 ux_9 => ?_)
  case o10 => omega
  case o11 => omega
  refine lv_imul hx hb dX10_means_18 ?_
  refine lv_topi (fun x_10 ex_10 => ?_)
  have mx_10 : r_5.toInt = 0 → x_10.toInt = 0 := fun z => by rw [ex_10]; exact hx_mul0 z
  refine lv_isub hx hb dX10_means_19 ?_
  have rg_11 := i32_r x_2
  have rg_12 := i32_r x_10
  refine lv_topi (fun x_13 ex_13 => ?_)
  exact hx_reti hx hb hr hlk hW ⟨trivial, hT, hM⟩ dX10_means_20

def wNX10_pays : Nat := 2541390651577569110128755561290899445204270236065964451109779997859376976419097543669548465266966891150803909208809919129328804665745761440031810096635923580624906007594
theorem wX10_pays_c : hz_cd cX10_pays wNX10_pays 70 := ⟨by decide +kernel, by decide +kernel⟩
theorem dX10_pays_0 : decode cX10_pays 0 = .ok (.aload_n 0, 1) := dw_42 wX10_pays_c rfl
theorem dX10_pays_1 : decode cX10_pays 1 = .ok (.getfield 144, 3) := dw_180 wX10_pays_c 0 144 rfl rfl
theorem dX10_pays_4 : decode cX10_pays 4 = .ok (.aload_n 0, 1) := dw_42 wX10_pays_c rfl
theorem dX10_pays_5 : decode cX10_pays 5 = .ok (.getfield 413, 3) := dw_180 wX10_pays_c 1 157 rfl rfl
theorem dX10_pays_8 : decode cX10_pays 8 = .ok (.iload_n 1, 1) := dw_27 wX10_pays_c rfl
theorem dX10_pays_9 : decode cX10_pays 9 = .ok (.iastore, 1) := dw_79 wX10_pays_c rfl
theorem dX10_pays_10 : decode cX10_pays 10 = .ok (.aload_n 0, 1) := dw_42 wX10_pays_c rfl
theorem dX10_pays_11 : decode cX10_pays 11 = .ok (.getfield 147, 3) := dw_180 wX10_pays_c 0 147 rfl rfl
theorem dX10_pays_14 : decode cX10_pays 14 = .ok (.aload_n 0, 1) := dw_42 wX10_pays_c rfl
theorem dX10_pays_15 : decode cX10_pays 15 = .ok (.getfield 413, 3) := dw_180 wX10_pays_c 1 157 rfl rfl
theorem dX10_pays_18 : decode cX10_pays 18 = .ok (.iload_n 2, 1) := dw_28 wX10_pays_c rfl
theorem dX10_pays_19 : decode cX10_pays 19 = .ok (.iastore, 1) := dw_79 wX10_pays_c rfl
theorem dX10_pays_20 : decode cX10_pays 20 = .ok (.aload_n 0, 1) := dw_42 wX10_pays_c rfl
theorem dX10_pays_21 : decode cX10_pays 21 = .ok (.getfield 150, 3) := dw_180 wX10_pays_c 0 150 rfl rfl
theorem dX10_pays_24 : decode cX10_pays 24 = .ok (.aload_n 0, 1) := dw_42 wX10_pays_c rfl
theorem dX10_pays_25 : decode cX10_pays 25 = .ok (.getfield 413, 3) := dw_180 wX10_pays_c 1 157 rfl rfl
theorem dX10_pays_28 : decode cX10_pays 28 = .ok (.iload_n 3, 1) := dw_29 wX10_pays_c rfl
theorem dX10_pays_29 : decode cX10_pays 29 = .ok (.iastore, 1) := dw_79 wX10_pays_c rfl
theorem dX10_pays_30 : decode cX10_pays 30 = .ok (.aload_n 0, 1) := dw_42 wX10_pays_c rfl
theorem dX10_pays_31 : decode cX10_pays 31 = .ok (.getfield 153, 3) := dw_180 wX10_pays_c 0 153 rfl rfl
theorem dX10_pays_34 : decode cX10_pays 34 = .ok (.aload_n 0, 1) := dw_42 wX10_pays_c rfl
theorem dX10_pays_35 : decode cX10_pays 35 = .ok (.getfield 413, 3) := dw_180 wX10_pays_c 1 157 rfl rfl
theorem dX10_pays_38 : decode cX10_pays 38 = .ok (.aload_n 0, 1) := dw_42 wX10_pays_c rfl
theorem dX10_pays_39 : decode cX10_pays 39 = .ok (.getfield 232, 3) := dw_180 wX10_pays_c 0 232 rfl rfl
theorem dX10_pays_42 : decode cX10_pays 42 = .ok (.iastore, 1) := dw_79 wX10_pays_c rfl
theorem dX10_pays_43 : decode cX10_pays 43 = .ok (.aload_n 0, 1) := dw_42 wX10_pays_c rfl
theorem dX10_pays_44 : decode cX10_pays 44 = .ok (.getfield 156, 3) := dw_180 wX10_pays_c 0 156 rfl rfl
theorem dX10_pays_47 : decode cX10_pays 47 = .ok (.aload_n 0, 1) := dw_42 wX10_pays_c rfl
theorem dX10_pays_48 : decode cX10_pays 48 = .ok (.getfield 413, 3) := dw_180 wX10_pays_c 1 157 rfl rfl
theorem dX10_pays_51 : decode cX10_pays 51 = .ok (.iconst (-1), 1) := dw_2 wX10_pays_c rfl
theorem dX10_pays_52 : decode cX10_pays 52 = .ok (.iastore, 1) := dw_79 wX10_pays_c rfl
theorem dX10_pays_53 : decode cX10_pays 53 = .ok (.aload_n 0, 1) := dw_42 wX10_pays_c rfl
theorem dX10_pays_54 : decode cX10_pays 54 = .ok (.dup, 1) := dw_89 wX10_pays_c rfl
theorem dX10_pays_55 : decode cX10_pays 55 = .ok (.getfield 413, 3) := dw_180 wX10_pays_c 1 157 rfl rfl
theorem dX10_pays_58 : decode cX10_pays 58 = .ok (.iconst 1, 1) := dw_4 wX10_pays_c rfl
theorem dX10_pays_59 : decode cX10_pays 59 = .ok (.iadd, 1) := dw_96 wX10_pays_c rfl
theorem dX10_pays_60 : decode cX10_pays 60 = .ok (.putfield 413, 3) := dw_181 wX10_pays_c 1 157 rfl rfl
theorem dX10_pays_63 : decode cX10_pays 63 = .ok (.aload_n 0, 1) := dw_42 wX10_pays_c rfl
theorem dX10_pays_64 : decode cX10_pays 64 = .ok (.getfield 413, 3) := dw_180 wX10_pays_c 1 157 rfl rfl
theorem dX10_pays_67 : decode cX10_pays 67 = .ok (.iconst 1, 1) := dw_4 wX10_pays_c rfl
theorem dX10_pays_68 : decode cX10_pays 68 = .ok (.isub, 1) := dw_100 wX10_pays_c rfl
theorem dX10_pays_69 : decode cX10_pays 69 = .ok (.ireturn, 1) := dw_172 wX10_pays_c rfl
def wNX10_pay : Nat := 716456114843639695573866136000393640549524919340088782223619657710382673473172946206999597414525423472627137525467836318343802646769120336435752683494113867548783688578412072864429098
theorem wX10_pay_c : hz_cd cX10_pay wNX10_pay 76 := ⟨by decide +kernel, by decide +kernel⟩
theorem dX10_pay_0 : decode cX10_pay 0 = .ok (.aload_n 0, 1) := dw_42 wX10_pay_c rfl
theorem dX10_pay_1 : decode cX10_pay 1 = .ok (.getfield 413, 3) := dw_180 wX10_pay_c 1 157 rfl rfl
theorem dX10_pay_4 : decode cX10_pay 4 = .ok (.sipush 600, 3) := dw_17 wX10_pay_c 2 88 rfl rfl rfl
theorem dX10_pay_7 : decode cX10_pay 7 = .ok (.if_icmp .eq 59, 3) := dw_159 wX10_pay_c 0 59 rfl rfl rfl
theorem dX10_pay_10 : decode cX10_pay 10 = .ok (.aload_n 0, 1) := dw_42 wX10_pay_c rfl
theorem dX10_pay_11 : decode cX10_pay 11 = .ok (.iload_n 1, 1) := dw_27 wX10_pay_c rfl
theorem dX10_pay_12 : decode cX10_pay 12 = .ok (.invokevirtual 370, 3) := dw_182 wX10_pay_c 1 114 rfl rfl
theorem dX10_pay_15 : decode cX10_pay 15 = .ok (.ifCond .eq 51, 3) := dw_153 wX10_pay_c 0 51 rfl rfl rfl
theorem dX10_pay_18 : decode cX10_pay 18 = .ok (.aload_n 0, 1) := dw_42 wX10_pay_c rfl
theorem dX10_pay_19 : decode cX10_pay 19 = .ok (.getfield 114, 3) := dw_180 wX10_pay_c 0 114 rfl rfl
theorem dX10_pay_22 : decode cX10_pay 22 = .ok (.iload_n 1, 1) := dw_27 wX10_pay_c rfl
theorem dX10_pay_23 : decode cX10_pay 23 = .ok (.iaload, 1) := dw_46 wX10_pay_c rfl
theorem dX10_pay_24 : decode cX10_pay 24 = .ok (.iconst (-1), 1) := dw_2 wX10_pay_c rfl
theorem dX10_pay_25 : decode cX10_pay 25 = .ok (.if_icmp .eq 41, 3) := dw_159 wX10_pay_c 0 41 rfl rfl rfl
theorem dX10_pay_28 : decode cX10_pay 28 = .ok (.aload_n 0, 1) := dw_42 wX10_pay_c rfl
theorem dX10_pay_29 : decode cX10_pay 29 = .ok (.getfield 120, 3) := dw_180 wX10_pay_c 0 120 rfl rfl
theorem dX10_pay_32 : decode cX10_pay 32 = .ok (.iload_n 1, 1) := dw_27 wX10_pay_c rfl
theorem dX10_pay_33 : decode cX10_pay 33 = .ok (.iaload, 1) := dw_46 wX10_pay_c rfl
theorem dX10_pay_34 : decode cX10_pay 34 = .ok (.iconst (-1), 1) := dw_2 wX10_pay_c rfl
theorem dX10_pay_35 : decode cX10_pay 35 = .ok (.if_icmp .ne 31, 3) := dw_160 wX10_pay_c 0 31 rfl rfl rfl
theorem dX10_pay_38 : decode cX10_pay 38 = .ok (.iload_n 2, 1) := dw_28 wX10_pay_c rfl
theorem dX10_pay_39 : decode cX10_pay 39 = .ok (.aload_n 0, 1) := dw_42 wX10_pay_c rfl
theorem dX10_pay_40 : decode cX10_pay 40 = .ok (.getfield 114, 3) := dw_180 wX10_pay_c 0 114 rfl rfl
theorem dX10_pay_43 : decode cX10_pay 43 = .ok (.iload_n 1, 1) := dw_27 wX10_pay_c rfl
theorem dX10_pay_44 : decode cX10_pay 44 = .ok (.iaload, 1) := dw_46 wX10_pay_c rfl
theorem dX10_pay_45 : decode cX10_pay 45 = .ok (.aload_n 0, 1) := dw_42 wX10_pay_c rfl
theorem dX10_pay_46 : decode cX10_pay 46 = .ok (.getfield 232, 3) := dw_180 wX10_pay_c 0 232 rfl rfl
theorem dX10_pay_49 : decode cX10_pay 49 = .ok (.invokestatic 228, 3) := dw_184 wX10_pay_c 0 228 rfl rfl
theorem dX10_pay_52 : decode cX10_pay 52 = .ok (.ifCond .eq 14, 3) := dw_153 wX10_pay_c 0 14 rfl rfl rfl
theorem dX10_pay_55 : decode cX10_pay 55 = .ok (.iload_n 3, 1) := dw_29 wX10_pay_c rfl
theorem dX10_pay_56 : decode cX10_pay 56 = .ok (.iconst 1, 1) := dw_4 wX10_pay_c rfl
theorem dX10_pay_57 : decode cX10_pay 57 = .ok (.sipush 9999, 3) := dw_17 wX10_pay_c 39 15 rfl rfl rfl
theorem dX10_pay_60 : decode cX10_pay 60 = .ok (.invokestatic 228, 3) := dw_184 wX10_pay_c 0 228 rfl rfl
theorem dX10_pay_63 : decode cX10_pay 63 = .ok (.ifCond .ne 5, 3) := dw_154 wX10_pay_c 0 5 rfl rfl rfl
theorem dX10_pay_66 : decode cX10_pay 66 = .ok (.iconst (-1), 1) := dw_2 wX10_pay_c rfl
theorem dX10_pay_67 : decode cX10_pay 67 = .ok (.ireturn, 1) := dw_172 wX10_pay_c rfl
theorem dX10_pay_68 : decode cX10_pay 68 = .ok (.aload_n 0, 1) := dw_42 wX10_pay_c rfl
theorem dX10_pay_69 : decode cX10_pay 69 = .ok (.iload_n 1, 1) := dw_27 wX10_pay_c rfl
theorem dX10_pay_70 : decode cX10_pay 70 = .ok (.iload_n 2, 1) := dw_28 wX10_pay_c rfl
theorem dX10_pay_71 : decode cX10_pay 71 = .ok (.iload_n 3, 1) := dw_29 wX10_pay_c rfl
theorem dX10_pay_72 : decode cX10_pay 72 = .ok (.invokevirtual 425, 3) := dw_182 wX10_pay_c 1 169 rfl rfl
theorem dX10_pay_75 : decode cX10_pay 75 = .ok (.ireturn, 1) := dw_172 wX10_pay_c rfl
def wNX10_strike : Nat := 21900281269948395608101905402893364427719624170638227969481792064797187632507280969316303643
theorem wX10_strike_c : hz_cd cX10_strike wNX10_strike 38 := ⟨by decide +kernel, by decide +kernel⟩
theorem dX10_strike_0 : decode cX10_strike 0 = .ok (.iload_n 1, 1) := dw_27 wX10_strike_c rfl
theorem dX10_strike_1 : decode cX10_strike 1 = .ok (.iconst 0, 1) := dw_3 wX10_strike_c rfl
theorem dX10_strike_2 : decode cX10_strike 2 = .ok (.aload_n 0, 1) := dw_42 wX10_strike_c rfl
theorem dX10_strike_3 : decode cX10_strike 3 = .ok (.getfield 413, 3) := dw_180 wX10_strike_c 1 157 rfl rfl
theorem dX10_strike_6 : decode cX10_strike 6 = .ok (.iconst 1, 1) := dw_4 wX10_strike_c rfl
theorem dX10_strike_7 : decode cX10_strike 7 = .ok (.isub, 1) := dw_100 wX10_strike_c rfl
theorem dX10_strike_8 : decode cX10_strike 8 = .ok (.invokestatic 228, 3) := dw_184 wX10_strike_c 0 228 rfl rfl
theorem dX10_strike_11 : decode cX10_strike 11 = .ok (.ifCond .eq 13, 3) := dw_153 wX10_strike_c 0 13 rfl rfl rfl
theorem dX10_strike_14 : decode cX10_strike 14 = .ok (.aload_n 0, 1) := dw_42 wX10_strike_c rfl
theorem dX10_strike_15 : decode cX10_strike 15 = .ok (.getfield 156, 3) := dw_180 wX10_strike_c 0 156 rfl rfl
theorem dX10_strike_18 : decode cX10_strike 18 = .ok (.iload_n 1, 1) := dw_27 wX10_strike_c rfl
theorem dX10_strike_19 : decode cX10_strike 19 = .ok (.iaload, 1) := dw_46 wX10_strike_c rfl
theorem dX10_strike_20 : decode cX10_strike 20 = .ok (.iconst (-1), 1) := dw_2 wX10_strike_c rfl
theorem dX10_strike_21 : decode cX10_strike 21 = .ok (.if_icmp .eq 5, 3) := dw_159 wX10_strike_c 0 5 rfl rfl rfl
theorem dX10_strike_24 : decode cX10_strike 24 = .ok (.iconst 0, 1) := dw_3 wX10_strike_c rfl
theorem dX10_strike_25 : decode cX10_strike 25 = .ok (.ireturn, 1) := dw_172 wX10_strike_c rfl
theorem dX10_strike_26 : decode cX10_strike 26 = .ok (.aload_n 0, 1) := dw_42 wX10_strike_c rfl
theorem dX10_strike_27 : decode cX10_strike 27 = .ok (.getfield 156, 3) := dw_180 wX10_strike_c 0 156 rfl rfl
theorem dX10_strike_30 : decode cX10_strike 30 = .ok (.iload_n 1, 1) := dw_27 wX10_strike_c rfl
theorem dX10_strike_31 : decode cX10_strike 31 = .ok (.aload_n 0, 1) := dw_42 wX10_strike_c rfl
theorem dX10_strike_32 : decode cX10_strike 32 = .ok (.getfield 232, 3) := dw_180 wX10_strike_c 0 232 rfl rfl
theorem dX10_strike_35 : decode cX10_strike 35 = .ok (.iastore, 1) := dw_79 wX10_strike_c rfl
theorem dX10_strike_36 : decode cX10_strike 36 = .ok (.iconst 1, 1) := dw_4 wX10_strike_c rfl
theorem dX10_strike_37 : decode cX10_strike 37 = .ok (.ireturn, 1) := dw_172 wX10_strike_c rfl
def wNX10_seize : Nat := 91165902413900209095235369524404514921179015852645606079823548023686299831739476623118017509602805891393248503310239097671640047545218444689501052637704914066192046259916876468276393637918969872447382997362639795740226428716943512700417189957833875724262917284564783471402
theorem wX10_seize_c : hz_cd cX10_seize wNX10_seize 113 := ⟨by decide +kernel, by decide +kernel⟩
theorem dX10_seize_0 : decode cX10_seize 0 = .ok (.aload_n 0, 1) := dw_42 wX10_seize_c rfl
theorem dX10_seize_1 : decode cX10_seize 1 = .ok (.iload_n 1, 1) := dw_27 wX10_seize_c rfl
theorem dX10_seize_2 : decode cX10_seize 2 = .ok (.invokevirtual 370, 3) := dw_182 wX10_seize_c 1 114 rfl rfl
theorem dX10_seize_5 : decode cX10_seize 5 = .ok (.ifCond .eq 24, 3) := dw_153 wX10_seize_c 0 24 rfl rfl rfl
theorem dX10_seize_8 : decode cX10_seize 8 = .ok (.aload_n 0, 1) := dw_42 wX10_seize_c rfl
theorem dX10_seize_9 : decode cX10_seize 9 = .ok (.getfield 117, 3) := dw_180 wX10_seize_c 0 117 rfl rfl
theorem dX10_seize_12 : decode cX10_seize 12 = .ok (.iload_n 1, 1) := dw_27 wX10_seize_c rfl
theorem dX10_seize_13 : decode cX10_seize 13 = .ok (.iaload, 1) := dw_46 wX10_seize_c rfl
theorem dX10_seize_14 : decode cX10_seize 14 = .ok (.iconst (-1), 1) := dw_2 wX10_seize_c rfl
theorem dX10_seize_15 : decode cX10_seize 15 = .ok (.if_icmp .ne 14, 3) := dw_160 wX10_seize_c 0 14 rfl rfl rfl
theorem dX10_seize_18 : decode cX10_seize 18 = .ok (.iload_n 2, 1) := dw_28 wX10_seize_c rfl
theorem dX10_seize_19 : decode cX10_seize 19 = .ok (.iconst 1, 1) := dw_4 wX10_seize_c rfl
theorem dX10_seize_20 : decode cX10_seize 20 = .ok (.sipush 9999, 3) := dw_17 wX10_seize_c 39 15 rfl rfl rfl
theorem dX10_seize_23 : decode cX10_seize 23 = .ok (.invokestatic 228, 3) := dw_184 wX10_seize_c 0 228 rfl rfl
theorem dX10_seize_26 : decode cX10_seize 26 = .ok (.ifCond .ne 7, 3) := dw_154 wX10_seize_c 0 7 rfl rfl rfl
theorem dX10_seize_29 : decode cX10_seize 29 = .ok (.ldc_w 357, 3) := dw_19 wX10_seize_c 1 101 rfl rfl
theorem dX10_seize_32 : decode cX10_seize 32 = .ok (.ireturn, 1) := dw_172 wX10_seize_c rfl
theorem dX10_seize_33 : decode cX10_seize 33 = .ok (.aload_n 0, 1) := dw_42 wX10_seize_c rfl
theorem dX10_seize_34 : decode cX10_seize 34 = .ok (.iload_n 1, 1) := dw_27 wX10_seize_c rfl
theorem dX10_seize_35 : decode cX10_seize 35 = .ok (.aload_n 0, 1) := dw_42 wX10_seize_c rfl
theorem dX10_seize_36 : decode cX10_seize 36 = .ok (.getfield 232, 3) := dw_180 wX10_seize_c 0 232 rfl rfl
theorem dX10_seize_39 : decode cX10_seize 39 = .ok (.aload_n 0, 1) := dw_42 wX10_seize_c rfl
theorem dX10_seize_40 : decode cX10_seize 40 = .ok (.getfield 232, 3) := dw_180 wX10_seize_c 0 232 rfl rfl
theorem dX10_seize_43 : decode cX10_seize 43 = .ok (.invokevirtual 416, 3) := dw_182 wX10_seize_c 1 160 rfl rfl
theorem dX10_seize_46 : decode cX10_seize 46 = .ok (.aload_n 0, 1) := dw_42 wX10_seize_c rfl
theorem dX10_seize_47 : decode cX10_seize 47 = .ok (.getfield 410, 3) := dw_180 wX10_seize_c 1 154 rfl rfl
theorem dX10_seize_50 : decode cX10_seize 50 = .ok (.iconst 5, 1) := dw_8 wX10_seize_c rfl
theorem dX10_seize_51 : decode cX10_seize 51 = .ok (.bipush 6, 2) := dw_16 wX10_seize_c 6 rfl rfl rfl
theorem dX10_seize_53 : decode cX10_seize 53 = .ok (.invokestatic 228, 3) := dw_184 wX10_seize_c 0 228 rfl rfl
theorem dX10_seize_56 : decode cX10_seize 56 = .ok (.ifCond .ne 7, 3) := dw_154 wX10_seize_c 0 7 rfl rfl rfl
theorem dX10_seize_59 : decode cX10_seize 59 = .ok (.ldc_w 357, 3) := dw_19 wX10_seize_c 1 101 rfl rfl
theorem dX10_seize_62 : decode cX10_seize 62 = .ok (.ireturn, 1) := dw_172 wX10_seize_c rfl
theorem dX10_seize_63 : decode cX10_seize 63 = .ok (.aload_n 0, 1) := dw_42 wX10_seize_c rfl
theorem dX10_seize_64 : decode cX10_seize 64 = .ok (.getfield 117, 3) := dw_180 wX10_seize_c 0 117 rfl rfl
theorem dX10_seize_67 : decode cX10_seize 67 = .ok (.iload_n 1, 1) := dw_27 wX10_seize_c rfl
theorem dX10_seize_68 : decode cX10_seize 68 = .ok (.aload_n 0, 1) := dw_42 wX10_seize_c rfl
theorem dX10_seize_69 : decode cX10_seize 69 = .ok (.getfield 232, 3) := dw_180 wX10_seize_c 0 232 rfl rfl
theorem dX10_seize_72 : decode cX10_seize 72 = .ok (.iastore, 1) := dw_79 wX10_seize_c rfl
theorem dX10_seize_73 : decode cX10_seize 73 = .ok (.aload_n 0, 1) := dw_42 wX10_seize_c rfl
theorem dX10_seize_74 : decode cX10_seize 74 = .ok (.getfield 138, 3) := dw_180 wX10_seize_c 0 138 rfl rfl
theorem dX10_seize_77 : decode cX10_seize 77 = .ok (.iload_n 1, 1) := dw_27 wX10_seize_c rfl
theorem dX10_seize_78 : decode cX10_seize 78 = .ok (.iload_n 2, 1) := dw_28 wX10_seize_c rfl
theorem dX10_seize_79 : decode cX10_seize 79 = .ok (.iastore, 1) := dw_79 wX10_seize_c rfl
theorem dX10_seize_80 : decode cX10_seize 80 = .ok (.aload_n 0, 1) := dw_42 wX10_seize_c rfl
theorem dX10_seize_81 : decode cX10_seize 81 = .ok (.iload_n 1, 1) := dw_27 wX10_seize_c rfl
theorem dX10_seize_82 : decode cX10_seize 82 = .ok (.aload_n 0, 1) := dw_42 wX10_seize_c rfl
theorem dX10_seize_83 : decode cX10_seize 83 = .ok (.getfield 232, 3) := dw_180 wX10_seize_c 0 232 rfl rfl
theorem dX10_seize_86 : decode cX10_seize 86 = .ok (.aload_n 0, 1) := dw_42 wX10_seize_c rfl
theorem dX10_seize_87 : decode cX10_seize 87 = .ok (.getfield 232, 3) := dw_180 wX10_seize_c 0 232 rfl rfl
theorem dX10_seize_90 : decode cX10_seize 90 = .ok (.invokevirtual 416, 3) := dw_182 wX10_seize_c 1 160 rfl rfl
theorem dX10_seize_93 : decode cX10_seize 93 = .ok (.aload_n 0, 1) := dw_42 wX10_seize_c rfl
theorem dX10_seize_94 : decode cX10_seize 94 = .ok (.getfield 404, 3) := dw_180 wX10_seize_c 1 148 rfl rfl
theorem dX10_seize_97 : decode cX10_seize 97 = .ok (.ifCond .le 11, 3) := dw_158 wX10_seize_c 0 11 rfl rfl rfl
theorem dX10_seize_100 : decode cX10_seize 100 = .ok (.aload_n 0, 1) := dw_42 wX10_seize_c rfl
theorem dX10_seize_101 : decode cX10_seize 101 = .ok (.getfield 404, 3) := dw_180 wX10_seize_c 1 148 rfl rfl
theorem dX10_seize_104 : decode cX10_seize 104 = .ok (.ineg, 1) := dw_116 wX10_seize_c rfl
theorem dX10_seize_105 : decode cX10_seize 105 = .ok (.goto 7, 3) := dw_167 wX10_seize_c 0 7 rfl rfl rfl
theorem dX10_seize_108 : decode cX10_seize 108 = .ok (.aload_n 0, 1) := dw_42 wX10_seize_c rfl
theorem dX10_seize_109 : decode cX10_seize 109 = .ok (.getfield 401, 3) := dw_180 wX10_seize_c 1 145 rfl rfl
theorem dX10_seize_112 : decode cX10_seize 112 = .ok (.ireturn, 1) := dw_172 wX10_seize_c rfl
def wNX10_gaol : Nat := 7211788988662231656296204188773265768333092318120954538542552761914956820563507046892377832798296347132106704697602887833624954403236655078434397275081495936693637994267693188816793763472217467748554848501654657395767187375571774146273872319459972774314038747998155579992459903757047844433649322040106
theorem wX10_gaol_c : hz_cd cX10_gaol wNX10_gaol 125 := ⟨by decide +kernel, by decide +kernel⟩
theorem dX10_gaol_0 : decode cX10_gaol 0 = .ok (.aload_n 0, 1) := dw_42 wX10_gaol_c rfl
theorem dX10_gaol_1 : decode cX10_gaol 1 = .ok (.iload_n 1, 1) := dw_27 wX10_gaol_c rfl
theorem dX10_gaol_2 : decode cX10_gaol 2 = .ok (.invokevirtual 370, 3) := dw_182 wX10_gaol_c 1 114 rfl rfl
theorem dX10_gaol_5 : decode cX10_gaol 5 = .ok (.ifCond .eq 27, 3) := dw_153 wX10_gaol_c 0 27 rfl rfl rfl
theorem dX10_gaol_8 : decode cX10_gaol 8 = .ok (.aload_n 0, 1) := dw_42 wX10_gaol_c rfl
theorem dX10_gaol_9 : decode cX10_gaol 9 = .ok (.getfield 117, 3) := dw_180 wX10_gaol_c 0 117 rfl rfl
theorem dX10_gaol_12 : decode cX10_gaol 12 = .ok (.iload_n 1, 1) := dw_27 wX10_gaol_c rfl
theorem dX10_gaol_13 : decode cX10_gaol 13 = .ok (.iaload, 1) := dw_46 wX10_gaol_c rfl
theorem dX10_gaol_14 : decode cX10_gaol 14 = .ok (.iconst (-1), 1) := dw_2 wX10_gaol_c rfl
theorem dX10_gaol_15 : decode cX10_gaol 15 = .ok (.if_icmp .eq 17, 3) := dw_159 wX10_gaol_c 0 17 rfl rfl rfl
theorem dX10_gaol_18 : decode cX10_gaol 18 = .ok (.aload_n 0, 1) := dw_42 wX10_gaol_c rfl
theorem dX10_gaol_19 : decode cX10_gaol 19 = .ok (.getfield 56, 3) := dw_180 wX10_gaol_c 0 56 rfl rfl
theorem dX10_gaol_22 : decode cX10_gaol 22 = .ok (.aload_n 0, 1) := dw_42 wX10_gaol_c rfl
theorem dX10_gaol_23 : decode cX10_gaol 23 = .ok (.getfield 84, 3) := dw_180 wX10_gaol_c 0 84 rfl rfl
theorem dX10_gaol_26 : decode cX10_gaol 26 = .ok (.iload_n 1, 1) := dw_27 wX10_gaol_c rfl
theorem dX10_gaol_27 : decode cX10_gaol 27 = .ok (.iaload, 1) := dw_46 wX10_gaol_c rfl
theorem dX10_gaol_28 : decode cX10_gaol 28 = .ok (.baload, 1) := dw_51 wX10_gaol_c rfl
theorem dX10_gaol_29 : decode cX10_gaol 29 = .ok (.ifCond .eq 5, 3) := dw_153 wX10_gaol_c 0 5 rfl rfl rfl
theorem dX10_gaol_32 : decode cX10_gaol 32 = .ok (.iconst (-1), 1) := dw_2 wX10_gaol_c rfl
theorem dX10_gaol_33 : decode cX10_gaol 33 = .ok (.ireturn, 1) := dw_172 wX10_gaol_c rfl
theorem dX10_gaol_34 : decode cX10_gaol 34 = .ok (.aload_n 0, 1) := dw_42 wX10_gaol_c rfl
theorem dX10_gaol_35 : decode cX10_gaol 35 = .ok (.iload_n 1, 1) := dw_27 wX10_gaol_c rfl
theorem dX10_gaol_36 : decode cX10_gaol 36 = .ok (.aload_n 0, 1) := dw_42 wX10_gaol_c rfl
theorem dX10_gaol_37 : decode cX10_gaol 37 = .ok (.getfield 232, 3) := dw_180 wX10_gaol_c 0 232 rfl rfl
theorem dX10_gaol_40 : decode cX10_gaol 40 = .ok (.aload_n 0, 1) := dw_42 wX10_gaol_c rfl
theorem dX10_gaol_41 : decode cX10_gaol 41 = .ok (.getfield 232, 3) := dw_180 wX10_gaol_c 0 232 rfl rfl
theorem dX10_gaol_44 : decode cX10_gaol 44 = .ok (.invokevirtual 416, 3) := dw_182 wX10_gaol_c 1 160 rfl rfl
theorem dX10_gaol_47 : decode cX10_gaol 47 = .ok (.aload_n 0, 1) := dw_42 wX10_gaol_c rfl
theorem dX10_gaol_48 : decode cX10_gaol 48 = .ok (.getfield 410, 3) := dw_180 wX10_gaol_c 1 154 rfl rfl
theorem dX10_gaol_51 : decode cX10_gaol 51 = .ok (.bipush 6, 2) := dw_16 wX10_gaol_c 6 rfl rfl rfl
theorem dX10_gaol_53 : decode cX10_gaol 53 = .ok (.if_icmp .eq 5, 3) := dw_159 wX10_gaol_c 0 5 rfl rfl rfl
theorem dX10_gaol_56 : decode cX10_gaol 56 = .ok (.iconst (-1), 1) := dw_2 wX10_gaol_c rfl
theorem dX10_gaol_57 : decode cX10_gaol 57 = .ok (.ireturn, 1) := dw_172 wX10_gaol_c rfl
theorem dX10_gaol_58 : decode cX10_gaol 58 = .ok (.aload_n 0, 1) := dw_42 wX10_gaol_c rfl
theorem dX10_gaol_59 : decode cX10_gaol 59 = .ok (.getfield 401, 3) := dw_180 wX10_gaol_c 1 145 rfl rfl
theorem dX10_gaol_62 : decode cX10_gaol 62 = .ok (.bipush 11, 2) := dw_16 wX10_gaol_c 11 rfl rfl rfl
theorem dX10_gaol_64 : decode cX10_gaol 64 = .ok (.iadd, 1) := dw_96 wX10_gaol_c rfl
theorem dX10_gaol_65 : decode cX10_gaol 65 = .ok (.bipush 12, 2) := dw_16 wX10_gaol_c 12 rfl rfl rfl
theorem dX10_gaol_67 : decode cX10_gaol 67 = .ok (.idiv, 1) := dw_108 wX10_gaol_c rfl
theorem dX10_gaol_68 : decode cX10_gaol 68 = .ok (.aload_n 0, 1) := dw_42 wX10_gaol_c rfl
theorem dX10_gaol_69 : decode cX10_gaol 69 = .ok (.aload_n 0, 1) := dw_42 wX10_gaol_c rfl
theorem dX10_gaol_70 : decode cX10_gaol 70 = .ok (.getfield 102, 3) := dw_180 wX10_gaol_c 0 102 rfl rfl
theorem dX10_gaol_73 : decode cX10_gaol 73 = .ok (.iload_n 1, 1) := dw_27 wX10_gaol_c rfl
theorem dX10_gaol_74 : decode cX10_gaol 74 = .ok (.iaload, 1) := dw_46 wX10_gaol_c rfl
theorem dX10_gaol_75 : decode cX10_gaol 75 = .ok (.bipush 6, 2) := dw_16 wX10_gaol_c 6 rfl rfl rfl
theorem dX10_gaol_77 : decode cX10_gaol 77 = .ok (.invokevirtual 333, 3) := dw_182 wX10_gaol_c 1 77 rfl rfl
theorem dX10_gaol_80 : decode cX10_gaol 80 = .ok (.imul, 1) := dw_104 wX10_gaol_c rfl
theorem dX10_gaol_81 : decode cX10_gaol 81 = .ok (.istore_n 2, 1) := dw_61 wX10_gaol_c rfl
theorem dX10_gaol_82 : decode cX10_gaol 82 = .ok (.aload_n 0, 1) := dw_42 wX10_gaol_c rfl
theorem dX10_gaol_83 : decode cX10_gaol 83 = .ok (.getfield 120, 3) := dw_180 wX10_gaol_c 0 120 rfl rfl
theorem dX10_gaol_86 : decode cX10_gaol 86 = .ok (.iload_n 1, 1) := dw_27 wX10_gaol_c rfl
theorem dX10_gaol_87 : decode cX10_gaol 87 = .ok (.aload_n 0, 1) := dw_42 wX10_gaol_c rfl
theorem dX10_gaol_88 : decode cX10_gaol 88 = .ok (.getfield 232, 3) := dw_180 wX10_gaol_c 0 232 rfl rfl
theorem dX10_gaol_91 : decode cX10_gaol 91 = .ok (.iastore, 1) := dw_79 wX10_gaol_c rfl
theorem dX10_gaol_92 : decode cX10_gaol 92 = .ok (.iload_n 2, 1) := dw_28 wX10_gaol_c rfl
theorem dX10_gaol_93 : decode cX10_gaol 93 = .ok (.aload_n 0, 1) := dw_42 wX10_gaol_c rfl
theorem dX10_gaol_94 : decode cX10_gaol 94 = .ok (.aload_n 0, 1) := dw_42 wX10_gaol_c rfl
theorem dX10_gaol_95 : decode cX10_gaol 95 = .ok (.getfield 102, 3) := dw_180 wX10_gaol_c 0 102 rfl rfl
theorem dX10_gaol_98 : decode cX10_gaol 98 = .ok (.iload_n 1, 1) := dw_27 wX10_gaol_c rfl
theorem dX10_gaol_99 : decode cX10_gaol 99 = .ok (.iaload, 1) := dw_46 wX10_gaol_c rfl
theorem dX10_gaol_100 : decode cX10_gaol 100 = .ok (.bipush 7, 2) := dw_16 wX10_gaol_c 7 rfl rfl rfl
theorem dX10_gaol_102 : decode cX10_gaol 102 = .ok (.invokevirtual 333, 3) := dw_182 wX10_gaol_c 1 77 rfl rfl
theorem dX10_gaol_105 : decode cX10_gaol 105 = .ok (.if_icmp .ge 7, 3) := dw_162 wX10_gaol_c 0 7 rfl rfl rfl
theorem dX10_gaol_108 : decode cX10_gaol 108 = .ok (.iload_n 2, 1) := dw_28 wX10_gaol_c rfl
theorem dX10_gaol_109 : decode cX10_gaol 109 = .ok (.goto 15, 3) := dw_167 wX10_gaol_c 0 15 rfl rfl rfl
theorem dX10_gaol_112 : decode cX10_gaol 112 = .ok (.aload_n 0, 1) := dw_42 wX10_gaol_c rfl
theorem dX10_gaol_113 : decode cX10_gaol 113 = .ok (.aload_n 0, 1) := dw_42 wX10_gaol_c rfl
theorem dX10_gaol_114 : decode cX10_gaol 114 = .ok (.getfield 102, 3) := dw_180 wX10_gaol_c 0 102 rfl rfl
theorem dX10_gaol_117 : decode cX10_gaol 117 = .ok (.iload_n 1, 1) := dw_27 wX10_gaol_c rfl
theorem dX10_gaol_118 : decode cX10_gaol 118 = .ok (.iaload, 1) := dw_46 wX10_gaol_c rfl
theorem dX10_gaol_119 : decode cX10_gaol 119 = .ok (.bipush 7, 2) := dw_16 wX10_gaol_c 7 rfl rfl rfl
theorem dX10_gaol_121 : decode cX10_gaol 121 = .ok (.invokevirtual 333, 3) := dw_182 wX10_gaol_c 1 77 rfl rfl
theorem dX10_gaol_124 : decode cX10_gaol 124 = .ok (.ireturn, 1) := dw_172 wX10_gaol_c rfl
def wNX10_claim : Nat := 87794730877056575265318190798289922615361331382468977999764789608244861680496982440475034739246945920392824950422610642490981067457828586270690534158054619397305334905551214885405137270895218161470405338719665679265493690671332693017544720512814400584670013611774838077731447332398931509917980080610411282675310014466565378057965801412148587321709972249152949006972342404800740629520613496534454739607826423380105048481416693981061587387423530
theorem wX10_claim_c : hz_cd cX10_claim wNX10_claim 184 := ⟨by decide +kernel, by decide +kernel⟩
theorem dX10_claim_0 : decode cX10_claim 0 = .ok (.aload_n 0, 1) := dw_42 wX10_claim_c rfl
theorem dX10_claim_1 : decode cX10_claim 1 = .ok (.iload_n 1, 1) := dw_27 wX10_claim_c rfl
theorem dX10_claim_2 : decode cX10_claim 2 = .ok (.invokevirtual 370, 3) := dw_182 wX10_claim_c 1 114 rfl rfl
theorem dX10_claim_5 : decode cX10_claim 5 = .ok (.ifCond .ne 5, 3) := dw_154 wX10_claim_c 0 5 rfl rfl rfl
theorem dX10_claim_8 : decode cX10_claim 8 = .ok (.iconst (-1), 1) := dw_2 wX10_claim_c rfl
theorem dX10_claim_9 : decode cX10_claim 9 = .ok (.ireturn, 1) := dw_172 wX10_claim_c rfl
theorem dX10_claim_10 : decode cX10_claim 10 = .ok (.iload_n 2, 1) := dw_28 wX10_claim_c rfl
theorem dX10_claim_11 : decode cX10_claim 11 = .ok (.tableswitch 171 0 13 #[69, 76, 83, 90, 97, 104, 111, 111, 111, 125, 132, 139, 146, 155], 69) := by decide +kernel
theorem dX10_claim_80 : decode cX10_claim 80 = .ok (.aload_n 0, 1) := dw_42 wX10_claim_c rfl
theorem dX10_claim_81 : decode cX10_claim 81 = .ok (.getfield 81, 3) := dw_180 wX10_claim_c 0 81 rfl rfl
theorem dX10_claim_84 : decode cX10_claim 84 = .ok (.iload_n 1, 1) := dw_27 wX10_claim_c rfl
theorem dX10_claim_85 : decode cX10_claim 85 = .ok (.iaload, 1) := dw_46 wX10_claim_c rfl
theorem dX10_claim_86 : decode cX10_claim 86 = .ok (.ireturn, 1) := dw_172 wX10_claim_c rfl
theorem dX10_claim_87 : decode cX10_claim 87 = .ok (.aload_n 0, 1) := dw_42 wX10_claim_c rfl
theorem dX10_claim_88 : decode cX10_claim 88 = .ok (.getfield 84, 3) := dw_180 wX10_claim_c 0 84 rfl rfl
theorem dX10_claim_91 : decode cX10_claim 91 = .ok (.iload_n 1, 1) := dw_27 wX10_claim_c rfl
theorem dX10_claim_92 : decode cX10_claim 92 = .ok (.iaload, 1) := dw_46 wX10_claim_c rfl
theorem dX10_claim_93 : decode cX10_claim 93 = .ok (.ireturn, 1) := dw_172 wX10_claim_c rfl
theorem dX10_claim_94 : decode cX10_claim 94 = .ok (.aload_n 0, 1) := dw_42 wX10_claim_c rfl
theorem dX10_claim_95 : decode cX10_claim 95 = .ok (.getfield 87, 3) := dw_180 wX10_claim_c 0 87 rfl rfl
theorem dX10_claim_98 : decode cX10_claim 98 = .ok (.iload_n 1, 1) := dw_27 wX10_claim_c rfl
theorem dX10_claim_99 : decode cX10_claim 99 = .ok (.iaload, 1) := dw_46 wX10_claim_c rfl
theorem dX10_claim_100 : decode cX10_claim 100 = .ok (.ireturn, 1) := dw_172 wX10_claim_c rfl
theorem dX10_claim_101 : decode cX10_claim 101 = .ok (.aload_n 0, 1) := dw_42 wX10_claim_c rfl
theorem dX10_claim_102 : decode cX10_claim 102 = .ok (.getfield 99, 3) := dw_180 wX10_claim_c 0 99 rfl rfl
theorem dX10_claim_105 : decode cX10_claim 105 = .ok (.iload_n 1, 1) := dw_27 wX10_claim_c rfl
theorem dX10_claim_106 : decode cX10_claim 106 = .ok (.iaload, 1) := dw_46 wX10_claim_c rfl
theorem dX10_claim_107 : decode cX10_claim 107 = .ok (.ireturn, 1) := dw_172 wX10_claim_c rfl
theorem dX10_claim_108 : decode cX10_claim 108 = .ok (.aload_n 0, 1) := dw_42 wX10_claim_c rfl
theorem dX10_claim_109 : decode cX10_claim 109 = .ok (.getfield 105, 3) := dw_180 wX10_claim_c 0 105 rfl rfl
theorem dX10_claim_112 : decode cX10_claim 112 = .ok (.iload_n 1, 1) := dw_27 wX10_claim_c rfl
theorem dX10_claim_113 : decode cX10_claim 113 = .ok (.iaload, 1) := dw_46 wX10_claim_c rfl
theorem dX10_claim_114 : decode cX10_claim 114 = .ok (.ireturn, 1) := dw_172 wX10_claim_c rfl
theorem dX10_claim_115 : decode cX10_claim 115 = .ok (.aload_n 0, 1) := dw_42 wX10_claim_c rfl
theorem dX10_claim_116 : decode cX10_claim 116 = .ok (.getfield 123, 3) := dw_180 wX10_claim_c 0 123 rfl rfl
theorem dX10_claim_119 : decode cX10_claim 119 = .ok (.iload_n 1, 1) := dw_27 wX10_claim_c rfl
theorem dX10_claim_120 : decode cX10_claim 120 = .ok (.iaload, 1) := dw_46 wX10_claim_c rfl
theorem dX10_claim_121 : decode cX10_claim 121 = .ok (.ireturn, 1) := dw_172 wX10_claim_c rfl
theorem dX10_claim_122 : decode cX10_claim 122 = .ok (.aload_n 0, 1) := dw_42 wX10_claim_c rfl
theorem dX10_claim_123 : decode cX10_claim 123 = .ok (.getfield 126, 3) := dw_180 wX10_claim_c 0 126 rfl rfl
theorem dX10_claim_126 : decode cX10_claim 126 = .ok (.iconst 3, 1) := dw_6 wX10_claim_c rfl
theorem dX10_claim_127 : decode cX10_claim 127 = .ok (.iload_n 1, 1) := dw_27 wX10_claim_c rfl
theorem dX10_claim_128 : decode cX10_claim 128 = .ok (.imul, 1) := dw_104 wX10_claim_c rfl
theorem dX10_claim_129 : decode cX10_claim 129 = .ok (.iload_n 2, 1) := dw_28 wX10_claim_c rfl
theorem dX10_claim_130 : decode cX10_claim 130 = .ok (.iadd, 1) := dw_96 wX10_claim_c rfl
theorem dX10_claim_131 : decode cX10_claim 131 = .ok (.bipush 6, 2) := dw_16 wX10_claim_c 6 rfl rfl rfl
theorem dX10_claim_133 : decode cX10_claim 133 = .ok (.isub, 1) := dw_100 wX10_claim_c rfl
theorem dX10_claim_134 : decode cX10_claim 134 = .ok (.iaload, 1) := dw_46 wX10_claim_c rfl
theorem dX10_claim_135 : decode cX10_claim 135 = .ok (.ireturn, 1) := dw_172 wX10_claim_c rfl
theorem dX10_claim_136 : decode cX10_claim 136 = .ok (.aload_n 0, 1) := dw_42 wX10_claim_c rfl
theorem dX10_claim_137 : decode cX10_claim 137 = .ok (.getfield 114, 3) := dw_180 wX10_claim_c 0 114 rfl rfl
theorem dX10_claim_140 : decode cX10_claim 140 = .ok (.iload_n 1, 1) := dw_27 wX10_claim_c rfl
theorem dX10_claim_141 : decode cX10_claim 141 = .ok (.iaload, 1) := dw_46 wX10_claim_c rfl
theorem dX10_claim_142 : decode cX10_claim 142 = .ok (.ireturn, 1) := dw_172 wX10_claim_c rfl
theorem dX10_claim_143 : decode cX10_claim 143 = .ok (.aload_n 0, 1) := dw_42 wX10_claim_c rfl
theorem dX10_claim_144 : decode cX10_claim 144 = .ok (.getfield 132, 3) := dw_180 wX10_claim_c 0 132 rfl rfl
theorem dX10_claim_147 : decode cX10_claim 147 = .ok (.iload_n 1, 1) := dw_27 wX10_claim_c rfl
theorem dX10_claim_148 : decode cX10_claim 148 = .ok (.iaload, 1) := dw_46 wX10_claim_c rfl
theorem dX10_claim_149 : decode cX10_claim 149 = .ok (.ireturn, 1) := dw_172 wX10_claim_c rfl
theorem dX10_claim_150 : decode cX10_claim 150 = .ok (.aload_n 0, 1) := dw_42 wX10_claim_c rfl
theorem dX10_claim_151 : decode cX10_claim 151 = .ok (.getfield 135, 3) := dw_180 wX10_claim_c 0 135 rfl rfl
theorem dX10_claim_154 : decode cX10_claim 154 = .ok (.iload_n 1, 1) := dw_27 wX10_claim_c rfl
theorem dX10_claim_155 : decode cX10_claim 155 = .ok (.iaload, 1) := dw_46 wX10_claim_c rfl
theorem dX10_claim_156 : decode cX10_claim 156 = .ok (.ireturn, 1) := dw_172 wX10_claim_c rfl
theorem dX10_claim_157 : decode cX10_claim 157 = .ok (.aload_n 0, 1) := dw_42 wX10_claim_c rfl
theorem dX10_claim_158 : decode cX10_claim 158 = .ok (.getfield 102, 3) := dw_180 wX10_claim_c 0 102 rfl rfl
theorem dX10_claim_161 : decode cX10_claim 161 = .ok (.iload_n 1, 1) := dw_27 wX10_claim_c rfl
theorem dX10_claim_162 : decode cX10_claim 162 = .ok (.iaload, 1) := dw_46 wX10_claim_c rfl
theorem dX10_claim_163 : decode cX10_claim 163 = .ok (.iconst 1, 1) := dw_4 wX10_claim_c rfl
theorem dX10_claim_164 : decode cX10_claim 164 = .ok (.isub, 1) := dw_100 wX10_claim_c rfl
theorem dX10_claim_165 : decode cX10_claim 165 = .ok (.ireturn, 1) := dw_172 wX10_claim_c rfl
theorem dX10_claim_166 : decode cX10_claim 166 = .ok (.aload_n 0, 1) := dw_42 wX10_claim_c rfl
theorem dX10_claim_167 : decode cX10_claim 167 = .ok (.getfield 117, 3) := dw_180 wX10_claim_c 0 117 rfl rfl
theorem dX10_claim_170 : decode cX10_claim 170 = .ok (.iload_n 1, 1) := dw_27 wX10_claim_c rfl
theorem dX10_claim_171 : decode cX10_claim 171 = .ok (.iaload, 1) := dw_46 wX10_claim_c rfl
theorem dX10_claim_172 : decode cX10_claim 172 = .ok (.iconst (-1), 1) := dw_2 wX10_claim_c rfl
theorem dX10_claim_173 : decode cX10_claim 173 = .ok (.if_icmp .ne 7, 3) := dw_160 wX10_claim_c 0 7 rfl rfl rfl
theorem dX10_claim_176 : decode cX10_claim 176 = .ok (.iconst 0, 1) := dw_3 wX10_claim_c rfl
theorem dX10_claim_177 : decode cX10_claim 177 = .ok (.goto 4, 3) := dw_167 wX10_claim_c 0 4 rfl rfl rfl
theorem dX10_claim_180 : decode cX10_claim 180 = .ok (.iconst 1, 1) := dw_4 wX10_claim_c rfl
theorem dX10_claim_181 : decode cX10_claim 181 = .ok (.ireturn, 1) := dw_172 wX10_claim_c rfl
theorem dX10_claim_182 : decode cX10_claim 182 = .ok (.iconst (-1), 1) := dw_2 wX10_claim_c rfl
theorem dX10_claim_183 : decode cX10_claim 183 = .ok (.ireturn, 1) := dw_172 wX10_claim_c rfl
def wNX10_state : Nat := 1386599393190001994771151287875621451616662504558703369749112504274405851660337909199584233493320187129730875230077759381794575976646218948598920623036420618909799336849319385177663080234016681272475758757705956649509119254976875792785689538124945677444721339578850090
theorem wX10_state_c : hz_cd cX10_state wNX10_state 111 := ⟨by decide +kernel, by decide +kernel⟩
theorem dX10_state_0 : decode cX10_state 0 = .ok (.aload_n 0, 1) := dw_42 wX10_state_c rfl
theorem dX10_state_1 : decode cX10_state 1 = .ok (.iload_n 1, 1) := dw_27 wX10_state_c rfl
theorem dX10_state_2 : decode cX10_state 2 = .ok (.invokevirtual 370, 3) := dw_182 wX10_state_c 1 114 rfl rfl
theorem dX10_state_5 : decode cX10_state 5 = .ok (.ifCond .eq 35, 3) := dw_153 wX10_state_c 0 35 rfl rfl rfl
theorem dX10_state_8 : decode cX10_state 8 = .ok (.iload_n 2, 1) := dw_28 wX10_state_c rfl
theorem dX10_state_9 : decode cX10_state 9 = .ok (.aload_n 0, 1) := dw_42 wX10_state_c rfl
theorem dX10_state_10 : decode cX10_state 10 = .ok (.getfield 99, 3) := dw_180 wX10_state_c 0 99 rfl rfl
theorem dX10_state_13 : decode cX10_state 13 = .ok (.iload_n 1, 1) := dw_27 wX10_state_c rfl
theorem dX10_state_14 : decode cX10_state 14 = .ok (.iaload, 1) := dw_46 wX10_state_c rfl
theorem dX10_state_15 : decode cX10_state 15 = .ok (.sipush 7999, 3) := dw_17 wX10_state_c 31 63 rfl rfl rfl
theorem dX10_state_18 : decode cX10_state 18 = .ok (.invokestatic 228, 3) := dw_184 wX10_state_c 0 228 rfl rfl
theorem dX10_state_21 : decode cX10_state 21 = .ok (.ifCond .eq 19, 3) := dw_153 wX10_state_c 0 19 rfl rfl rfl
theorem dX10_state_24 : decode cX10_state 24 = .ok (.iload_n 3, 1) := dw_29 wX10_state_c rfl
theorem dX10_state_25 : decode cX10_state 25 = .ok (.aload_n 0, 1) := dw_42 wX10_state_c rfl
theorem dX10_state_26 : decode cX10_state 26 = .ok (.getfield 99, 3) := dw_180 wX10_state_c 0 99 rfl rfl
theorem dX10_state_29 : decode cX10_state 29 = .ok (.iload_n 1, 1) := dw_27 wX10_state_c rfl
theorem dX10_state_30 : decode cX10_state 30 = .ok (.iaload, 1) := dw_46 wX10_state_c rfl
theorem dX10_state_31 : decode cX10_state 31 = .ok (.sipush 7999, 3) := dw_17 wX10_state_c 31 63 rfl rfl rfl
theorem dX10_state_34 : decode cX10_state 34 = .ok (.invokestatic 228, 3) := dw_184 wX10_state_c 0 228 rfl rfl
theorem dX10_state_37 : decode cX10_state 37 = .ok (.ifCond .ne 5, 3) := dw_154 wX10_state_c 0 5 rfl rfl rfl
theorem dX10_state_40 : decode cX10_state 40 = .ok (.iconst (-1), 1) := dw_2 wX10_state_c rfl
theorem dX10_state_41 : decode cX10_state 41 = .ok (.ireturn, 1) := dw_172 wX10_state_c rfl
theorem dX10_state_42 : decode cX10_state 42 = .ok (.aload_n 0, 1) := dw_42 wX10_state_c rfl
theorem dX10_state_43 : decode cX10_state 43 = .ok (.iload_n 1, 1) := dw_27 wX10_state_c rfl
theorem dX10_state_44 : decode cX10_state 44 = .ok (.iload_n 2, 1) := dw_28 wX10_state_c rfl
theorem dX10_state_45 : decode cX10_state 45 = .ok (.iload_n 3, 1) := dw_29 wX10_state_c rfl
theorem dX10_state_46 : decode cX10_state 46 = .ok (.invokevirtual 416, 3) := dw_182 wX10_state_c 1 160 rfl rfl
theorem dX10_state_49 : decode cX10_state 49 = .ok (.iload 4, 2) := dw_21 wX10_state_c 4 rfl
theorem dX10_state_51 : decode cX10_state 51 = .ok (.tableswitch 58 0 4 #[33, 38, 43, 48, 53], 33) := by decide +kernel
theorem dX10_state_84 : decode cX10_state 84 = .ok (.aload_n 0, 1) := dw_42 wX10_state_c rfl
theorem dX10_state_85 : decode cX10_state 85 = .ok (.getfield 410, 3) := dw_180 wX10_state_c 1 154 rfl rfl
theorem dX10_state_88 : decode cX10_state 88 = .ok (.ireturn, 1) := dw_172 wX10_state_c rfl
theorem dX10_state_89 : decode cX10_state 89 = .ok (.aload_n 0, 1) := dw_42 wX10_state_c rfl
theorem dX10_state_90 : decode cX10_state 90 = .ok (.getfield 401, 3) := dw_180 wX10_state_c 1 145 rfl rfl
theorem dX10_state_93 : decode cX10_state 93 = .ok (.ireturn, 1) := dw_172 wX10_state_c rfl
theorem dX10_state_94 : decode cX10_state 94 = .ok (.aload_n 0, 1) := dw_42 wX10_state_c rfl
theorem dX10_state_95 : decode cX10_state 95 = .ok (.getfield 407, 3) := dw_180 wX10_state_c 1 151 rfl rfl
theorem dX10_state_98 : decode cX10_state 98 = .ok (.ireturn, 1) := dw_172 wX10_state_c rfl
theorem dX10_state_99 : decode cX10_state 99 = .ok (.aload_n 0, 1) := dw_42 wX10_state_c rfl
theorem dX10_state_100 : decode cX10_state 100 = .ok (.getfield 398, 3) := dw_180 wX10_state_c 1 142 rfl rfl
theorem dX10_state_103 : decode cX10_state 103 = .ok (.ireturn, 1) := dw_172 wX10_state_c rfl
theorem dX10_state_104 : decode cX10_state 104 = .ok (.aload_n 0, 1) := dw_42 wX10_state_c rfl
theorem dX10_state_105 : decode cX10_state 105 = .ok (.getfield 404, 3) := dw_180 wX10_state_c 1 148 rfl rfl
theorem dX10_state_108 : decode cX10_state 108 = .ok (.ireturn, 1) := dw_172 wX10_state_c rfl
theorem dX10_state_109 : decode cX10_state 109 = .ok (.iconst (-1), 1) := dw_2 wX10_state_c rfl
theorem dX10_state_110 : decode cX10_state 110 = .ok (.ireturn, 1) := dw_172 wX10_state_c rfl
end
section
def wNX10_planned : Nat := 8193440703931023064142924320009964799657218762173165655902263366138322871010769805920488439848592085930575893267395778085920742204868334846747
theorem wX10_planned_c : hz_cd cX10_planned wNX10_planned 59 := ⟨by decide +kernel, by decide +kernel⟩
theorem dX10_planned_0 : decode cX10_planned 0 = .ok (.iload_n 1, 1) := dw_27 wX10_planned_c rfl
theorem dX10_planned_1 : decode cX10_planned 1 = .ok (.iconst 0, 1) := dw_3 wX10_planned_c rfl
theorem dX10_planned_2 : decode cX10_planned 2 = .ok (.aload_n 0, 1) := dw_42 wX10_planned_c rfl
theorem dX10_planned_3 : decode cX10_planned 3 = .ok (.getfield 435, 3) := dw_180 wX10_planned_c 1 179 rfl rfl
theorem dX10_planned_6 : decode cX10_planned 6 = .ok (.iconst 1, 1) := dw_4 wX10_planned_c rfl
theorem dX10_planned_7 : decode cX10_planned 7 = .ok (.isub, 1) := dw_100 wX10_planned_c rfl
theorem dX10_planned_8 : decode cX10_planned 8 = .ok (.invokestatic 228, 3) := dw_184 wX10_planned_c 0 228 rfl rfl
theorem dX10_planned_11 : decode cX10_planned 11 = .ok (.ifCond .ne 5, 3) := dw_154 wX10_planned_c 0 5 rfl rfl rfl
theorem dX10_planned_14 : decode cX10_planned 14 = .ok (.iconst (-1), 1) := dw_2 wX10_planned_c rfl
theorem dX10_planned_15 : decode cX10_planned 15 = .ok (.ireturn, 1) := dw_172 wX10_planned_c rfl
theorem dX10_planned_16 : decode cX10_planned 16 = .ok (.iload_n 2, 1) := dw_28 wX10_planned_c rfl
theorem dX10_planned_17 : decode cX10_planned 17 = .ok (.ifCond .ne 12, 3) := dw_154 wX10_planned_c 0 12 rfl rfl rfl
theorem dX10_planned_20 : decode cX10_planned 20 = .ok (.aload_n 0, 1) := dw_42 wX10_planned_c rfl
theorem dX10_planned_21 : decode cX10_planned 21 = .ok (.getfield 165, 3) := dw_180 wX10_planned_c 0 165 rfl rfl
theorem dX10_planned_24 : decode cX10_planned 24 = .ok (.iload_n 1, 1) := dw_27 wX10_planned_c rfl
theorem dX10_planned_25 : decode cX10_planned 25 = .ok (.iaload, 1) := dw_46 wX10_planned_c rfl
theorem dX10_planned_26 : decode cX10_planned 26 = .ok (.goto 32, 3) := dw_167 wX10_planned_c 0 32 rfl rfl rfl
theorem dX10_planned_29 : decode cX10_planned 29 = .ok (.iload_n 2, 1) := dw_28 wX10_planned_c rfl
theorem dX10_planned_30 : decode cX10_planned 30 = .ok (.iconst 1, 1) := dw_4 wX10_planned_c rfl
theorem dX10_planned_31 : decode cX10_planned 31 = .ok (.if_icmp .ne 12, 3) := dw_160 wX10_planned_c 0 12 rfl rfl rfl
theorem dX10_planned_34 : decode cX10_planned 34 = .ok (.aload_n 0, 1) := dw_42 wX10_planned_c rfl
theorem dX10_planned_35 : decode cX10_planned 35 = .ok (.getfield 168, 3) := dw_180 wX10_planned_c 0 168 rfl rfl
theorem dX10_planned_38 : decode cX10_planned 38 = .ok (.iload_n 1, 1) := dw_27 wX10_planned_c rfl
theorem dX10_planned_39 : decode cX10_planned 39 = .ok (.iaload, 1) := dw_46 wX10_planned_c rfl
theorem dX10_planned_40 : decode cX10_planned 40 = .ok (.goto 18, 3) := dw_167 wX10_planned_c 0 18 rfl rfl rfl
theorem dX10_planned_43 : decode cX10_planned 43 = .ok (.iload_n 2, 1) := dw_28 wX10_planned_c rfl
theorem dX10_planned_44 : decode cX10_planned 44 = .ok (.iconst 2, 1) := dw_5 wX10_planned_c rfl
theorem dX10_planned_45 : decode cX10_planned 45 = .ok (.if_icmp .ne 12, 3) := dw_160 wX10_planned_c 0 12 rfl rfl rfl
theorem dX10_planned_48 : decode cX10_planned 48 = .ok (.aload_n 0, 1) := dw_42 wX10_planned_c rfl
theorem dX10_planned_49 : decode cX10_planned 49 = .ok (.getfield 186, 3) := dw_180 wX10_planned_c 0 186 rfl rfl
theorem dX10_planned_52 : decode cX10_planned 52 = .ok (.iload_n 1, 1) := dw_27 wX10_planned_c rfl
theorem dX10_planned_53 : decode cX10_planned 53 = .ok (.iaload, 1) := dw_46 wX10_planned_c rfl
theorem dX10_planned_54 : decode cX10_planned 54 = .ok (.goto 4, 3) := dw_167 wX10_planned_c 0 4 rfl rfl rfl
theorem dX10_planned_57 : decode cX10_planned 57 = .ok (.iconst (-1), 1) := dw_2 wX10_planned_c rfl
theorem dX10_planned_58 : decode cX10_planned 58 = .ok (.ireturn, 1) := dw_172 wX10_planned_c rfl
set_option maxHeartbeats 4000000 in
set_option maxRecDepth 100000 in
theorem t_X10_planned (l : Launch) (dC : Nat → ClassId) (dI : Nat → Nat → Nat) (dA : Nat → ClassId) (L : List Nat) (h : hx_h) (sz : Nat) (x : Nat) (i1 : Int32) (i2 : Int32) (hT : hx_T T_tb L h) (gx : hx_g L h x 10)  : Met l yX10_planned (Cond.code yX10_planned cX10_planned 3 (some .int) :: hx_all) ({ frames := 1, cells := 0, slots := 0, locals := 22 }) (va_Pc [.ref x, .int i1, .int i2] (hx_B T_tb (P_ty dA) (dC, dI) vwCl L h sz)) (va_Qi (fun (r : Int32) (u : List Nat × hx_h) => (True) ∧ hx_T T_tb u.1 u.2 ∧ hx_S T_tb [] L h u.1 u.2) (hx_E T_tb (P_ty dA) (dC, dI) vwCl (hx_A L sz)) (hx_A L sz)) 0 0 (hx_A L sz) := by
  refine hx_met (lv := [(0, .ref x), (1, .int i1), (2, .int i2)]) (by decide +kernel) rfl (Nat.le_of_ble_eq_true rfl) rfl ?_
  intro p e s m below meth c hx hb hml hr hlk hts0 hown hin hsz hW ls hl
  have hts : ∀ w ∈ hx_all, w.before _ s = true := fun w hw => hts0 w (List.mem_cons_of_mem _ hw)
  have hown : s.vm.findClass "SmallCourtModel" = some m.cls := hown
  have hM : hx_S T_tb [] L h L h := hx_S.rf
  refine lv_iload_n hx hb dX10_planned_0 rfl (lv_at hl 1 rfl) ?_
  refine lv_iconst (v := 0) hx hb dX10_planned_1 ?o0 ?_
  case o0 => decide
  refine lv_aload_n hx hb dX10_planned_2 rfl (lv_at hl 0 rfl) ?_
  refine hx_geti hx hb hts hC_10 hown hW hT (gx.S hM) tt_10 72 ?o1 rfl kw_1215 ⟨rfl, rfl, rfl⟩ dX10_planned_3 (fun x_1 ex_1 lx_1 ux_1 => ?_)
  case o1 => decide
  have fx_1 := ex_1.symm
  refine lv_iconst (v := 1) hx hb dX10_planned_6 ?o2 ?_
  case o2 => decide
  refine lv_isub hx hb dX10_planned_7 ?_
  have rg_2 := i32_r x_1
  refine lv_topi (fun x_3 ex_3 => ?_)
  have zx_3 : x_3.toInt = x_1.toInt - 1 := ?o3
  case o3 =>
    rw [ex_3]
    refine i32_sub rfl ?o4 ?o5 ?o6
    case o4 => decide
    case o5 => omega
    case o6 => omega
  have zc_0 : (0 : Int32).toInt = 0 := ?o7
  case o7 => decide
  refine hx_goi (hx_runS (As := [.int i1, .int (0 : Int32), .int x_3]) (rest := []) ⟨hx, hb, hml, hown, hts⟩ hW (t_X10_in l dC dI dA L h s.heap.size i1 (0 : Int32) x_3 hT) (va_cwS 3 hts (hx_gS kw_1445 kw_1443 kw_1444 kw_103) rfl rfl rfl (by decide +kernel) ⟨Nat.le_of_ble_eq_true rfl, Nat.le_of_ble_eq_true rfl⟩) rfl hl.1 rfl (Nat.le_of_ble_eq_true rfl) dX10_planned_8 ⟨Nat.le_of_ble_eq_true rfl, Nat.le_of_ble_eq_true rfl⟩) hW (fun r_6 L_4 h_5 H locs p_7 hW => ?_)
  obtain ⟨hr_8, hT, hs⟩ := p_7
  replace hT : hx_T T_tb L_4 h_5 := hT
  replace hs : hx_S T_tb [] L h L_4 h_5 := hs
  replace fx_1 := (hs.o (gx.S hM) trivial rfl).1.trans fx_1
  replace hM := hM.tr (hs.mono ?o8)
  case o8 => decide
  refine hb_if_ne (zx := r_6.toInt) (tgt := 16) hx hb rfl dX10_planned_11 ?o9 (fun c_9 => ?_) (fun c_9 => ?_)
  case o9 => decide
  · skip
    replace hr_8 := hr_8.resolve_left (fun z9 => c_9 z9.1)
    replace c_9 := hr_8.1
    replace hr_8 := hr_8.2
    refine lv_iload_n hx hb dX10_planned_16 rfl (lv_at hl 2 rfl) ?_
    refine hb_if_ne (zx := i2.toInt) (tgt := 29) hx hb rfl dX10_planned_17 ?o10 (fun c_10 => ?_) (fun c_10 => ?_)
    case o10 => decide
    · skip
      refine lv_iload_n hx hb dX10_planned_29 rfl (lv_at hl 2 rfl) ?_
      refine lv_iconst (v := 1) hx hb dX10_planned_30 ?o11 ?_
      case o11 => decide
      refine hb_icmp_ne (zx := i2.toInt) (zy := 1) (tgt := 43) hx hb rfl ?o12 dX10_planned_31 ?o13 (fun c_11 => ?_) (fun c_11 => ?_)
      case o12 => decide
      case o13 => decide
      · skip
        refine lv_iload_n hx hb dX10_planned_43 rfl (lv_at hl 2 rfl) ?_
        refine lv_iconst (v := 2) hx hb dX10_planned_44 ?o14 ?_
        case o14 => decide
        refine hb_icmp_ne (zx := i2.toInt) (zy := 2) (tgt := 57) hx hb rfl ?o15 dX10_planned_45 ?o16 (fun c_12 => ?_) (fun c_12 => ?_)
        case o15 => decide
        case o16 => decide
        · skip
          refine lv_iconst (v := -1) hx hb dX10_planned_57 ?o17 ?_
          case o17 => decide
          exact hx_reti hx hb hr hlk hW ⟨trivial, hT, hM⟩ dX10_planned_58
        · skip
          refine lv_aload_n hx hb dX10_planned_48 rfl (lv_at hl 0 rfl) ?_
          refine hx_getn hx hb hts hC_10 hown hW hT (gx.S hM) tt_10 81 ?o18 rfl kw_1224 ⟨rfl, rfl, rfl⟩ dX10_planned_49 (fun q_13 fq_13 gq_13 => ?_)
          case o18 => decide
          refine lv_iload_n hx hb dX10_planned_52 rfl (lv_at hl 1 rfl) ?_
          refine hx_iald hx hb hW hT gq_13 tt_107 rfl ⟨?o19, ?o20⟩ dX10_planned_53 (fun x_14 ex_14 lx_14 ux_14 => ?_)
          case o19 => omega
          case o20 => omega
          refine lv_goto (tgt := 58) hx hb dX10_planned_54 ?o21 ?_
          case o21 => decide
          exact hx_reti hx hb hr hlk hW ⟨trivial, hT, hM⟩ dX10_planned_58
      · skip
        refine lv_aload_n hx hb dX10_planned_34 rfl (lv_at hl 0 rfl) ?_
        refine hx_getn hx hb hts hC_10 hown hW hT (gx.S hM) tt_10 74 ?o22 rfl kw_1217 ⟨rfl, rfl, rfl⟩ dX10_planned_35 (fun q_15 fq_15 gq_15 => ?_)
        case o22 => decide
        refine lv_iload_n hx hb dX10_planned_38 rfl (lv_at hl 1 rfl) ?_
        refine hx_iald hx hb hW hT gq_15 tt_101 rfl ⟨?o23, ?o24⟩ dX10_planned_39 (fun x_16 ex_16 lx_16 ux_16 => ?_)
        case o23 => omega
        case o24 => omega
        refine lv_goto (tgt := 58) hx hb dX10_planned_40 ?o25 ?_
        case o25 => decide
        exact hx_reti hx hb hr hlk hW ⟨trivial, hT, hM⟩ dX10_planned_58
    · skip
      refine lv_aload_n hx hb dX10_planned_20 rfl (lv_at hl 0 rfl) ?_
      refine hx_getn hx hb hts hC_10 hown hW hT (gx.S hM) tt_10 73 ?o26 rfl kw_1216 ⟨rfl, rfl, rfl⟩ dX10_planned_21 (fun q_17 fq_17 gq_17 => ?_)
      case o26 => decide
      refine lv_iload_n hx hb dX10_planned_24 rfl (lv_at hl 1 rfl) ?_
      refine hx_iald hx hb hW hT gq_17 tt_100 rfl ⟨?o27, ?o28⟩ dX10_planned_25 (fun x_18 ex_18 lx_18 ux_18 => ?_)
      case o27 => omega
      case o28 => omega
      refine lv_goto (tgt := 58) hx hb dX10_planned_26 ?o29 ?_
      case o29 => decide
      exact hx_reti hx hb hr hlk hW ⟨trivial, hT, hM⟩ dX10_planned_58
  · skip
    replace hr_8 := hr_8.resolve_right (fun z9 => absurd (c_9.symm.trans z9.1) ?o30)
    case o30 => decide
    replace hr_8 := hr_8.2
    refine lv_iconst (v := -1) hx hb dX10_planned_14 ?o31 ?_
    case o31 => decide
    exact hx_reti hx hb hr hlk hW ⟨trivial, hT, hM⟩ dX10_planned_15

theorem dX10_lesser_0 : decode cX10_lesser 0 = .ok (.iload_n 0, 1) := by decide +kernel
theorem dX10_lesser_1 : decode cX10_lesser 1 = .ok (.iload_n 1, 1) := by decide +kernel
theorem dX10_lesser_2 : decode cX10_lesser 2 = .ok (.if_icmp .ge 7, 3) := by decide +kernel
theorem dX10_lesser_5 : decode cX10_lesser 5 = .ok (.iload_n 0, 1) := by decide +kernel
theorem dX10_lesser_6 : decode cX10_lesser 6 = .ok (.goto 4, 3) := by decide +kernel
theorem dX10_lesser_9 : decode cX10_lesser 9 = .ok (.iload_n 1, 1) := by decide +kernel
theorem dX10_lesser_10 : decode cX10_lesser 10 = .ok (.ireturn, 1) := by decide +kernel
def wNX10_debts : Nat := 2882297395197654574024416549013883388703723299867337492742205770803188829794122576787872364052361650258511688061432464621648797458783781505078655327139928680362297807458149431196675
theorem wX10_debts_c : hz_cd cX10_debts wNX10_debts 75 := ⟨by decide +kernel, by decide +kernel⟩
theorem dX10_debts_0 : decode cX10_debts 0 = .ok (.iconst 0, 1) := dw_3 wX10_debts_c rfl
theorem dX10_debts_1 : decode cX10_debts 1 = .ok (.istore_n 1, 1) := dw_60 wX10_debts_c rfl
theorem dX10_debts_2 : decode cX10_debts 2 = .ok (.iload_n 1, 1) := dw_27 wX10_debts_c rfl
theorem dX10_debts_3 : decode cX10_debts 3 = .ok (.sipush 1600, 3) := dw_17 wX10_debts_c 6 64 rfl rfl rfl
theorem dX10_debts_6 : decode cX10_debts 6 = .ok (.if_icmp .ge 16, 3) := dw_162 wX10_debts_c 0 16 rfl rfl rfl
theorem dX10_debts_9 : decode cX10_debts 9 = .ok (.aload_n 0, 1) := dw_42 wX10_debts_c rfl
theorem dX10_debts_10 : decode cX10_debts 10 = .ok (.getfield 189, 3) := dw_180 wX10_debts_c 0 189 rfl rfl
theorem dX10_debts_13 : decode cX10_debts 13 = .ok (.iload_n 1, 1) := dw_27 wX10_debts_c rfl
theorem dX10_debts_14 : decode cX10_debts 14 = .ok (.iconst 0, 1) := dw_3 wX10_debts_c rfl
theorem dX10_debts_15 : decode cX10_debts 15 = .ok (.iastore, 1) := dw_79 wX10_debts_c rfl
theorem dX10_debts_16 : decode cX10_debts 16 = .ok (.iinc 1 1, 3) := dw_132 wX10_debts_c 1 1 rfl rfl rfl
theorem dX10_debts_19 : decode cX10_debts 19 = .ok (.goto (-17), 3) := dn_167 wX10_debts_c 255 239 rfl (by decide)
theorem dX10_debts_22 : decode cX10_debts 22 = .ok (.iconst 0, 1) := dw_3 wX10_debts_c rfl
theorem dX10_debts_23 : decode cX10_debts 23 = .ok (.istore_n 1, 1) := dw_60 wX10_debts_c rfl
theorem dX10_debts_24 : decode cX10_debts 24 = .ok (.iload_n 1, 1) := dw_27 wX10_debts_c rfl
theorem dX10_debts_25 : decode cX10_debts 25 = .ok (.aload_n 0, 1) := dw_42 wX10_debts_c rfl
theorem dX10_debts_26 : decode cX10_debts 26 = .ok (.getfield 367, 3) := dw_180 wX10_debts_c 1 111 rfl rfl
theorem dX10_debts_29 : decode cX10_debts 29 = .ok (.if_icmp .ge 45, 3) := dw_162 wX10_debts_c 0 45 rfl rfl rfl
theorem dX10_debts_32 : decode cX10_debts 32 = .ok (.aload_n 0, 1) := dw_42 wX10_debts_c rfl
theorem dX10_debts_33 : decode cX10_debts 33 = .ok (.iload_n 1, 1) := dw_27 wX10_debts_c rfl
theorem dX10_debts_34 : decode cX10_debts 34 = .ok (.invokevirtual 419, 3) := dw_182 wX10_debts_c 1 163 rfl rfl
theorem dX10_debts_37 : decode cX10_debts 37 = .ok (.ifCond .eq 31, 3) := dw_153 wX10_debts_c 0 31 rfl rfl rfl
theorem dX10_debts_40 : decode cX10_debts 40 = .ok (.aload_n 0, 1) := dw_42 wX10_debts_c rfl
theorem dX10_debts_41 : decode cX10_debts 41 = .ok (.getfield 189, 3) := dw_180 wX10_debts_c 0 189 rfl rfl
theorem dX10_debts_44 : decode cX10_debts 44 = .ok (.bipush 40, 2) := dw_16 wX10_debts_c 40 rfl rfl rfl
theorem dX10_debts_46 : decode cX10_debts 46 = .ok (.aload_n 0, 1) := dw_42 wX10_debts_c rfl
theorem dX10_debts_47 : decode cX10_debts 47 = .ok (.getfield 84, 3) := dw_180 wX10_debts_c 0 84 rfl rfl
theorem dX10_debts_50 : decode cX10_debts 50 = .ok (.iload_n 1, 1) := dw_27 wX10_debts_c rfl
theorem dX10_debts_51 : decode cX10_debts 51 = .ok (.iaload, 1) := dw_46 wX10_debts_c rfl
theorem dX10_debts_52 : decode cX10_debts 52 = .ok (.imul, 1) := dw_104 wX10_debts_c rfl
theorem dX10_debts_53 : decode cX10_debts 53 = .ok (.aload_n 0, 1) := dw_42 wX10_debts_c rfl
theorem dX10_debts_54 : decode cX10_debts 54 = .ok (.getfield 81, 3) := dw_180 wX10_debts_c 0 81 rfl rfl
theorem dX10_debts_57 : decode cX10_debts 57 = .ok (.iload_n 1, 1) := dw_27 wX10_debts_c rfl
theorem dX10_debts_58 : decode cX10_debts 58 = .ok (.iaload, 1) := dw_46 wX10_debts_c rfl
theorem dX10_debts_59 : decode cX10_debts 59 = .ok (.iadd, 1) := dw_96 wX10_debts_c rfl
theorem dX10_debts_60 : decode cX10_debts 60 = .ok (.dup2, 1) := dw_92 wX10_debts_c rfl
theorem dX10_debts_61 : decode cX10_debts 61 = .ok (.iaload, 1) := dw_46 wX10_debts_c rfl
theorem dX10_debts_62 : decode cX10_debts 62 = .ok (.aload_n 0, 1) := dw_42 wX10_debts_c rfl
theorem dX10_debts_63 : decode cX10_debts 63 = .ok (.getfield 401, 3) := dw_180 wX10_debts_c 1 145 rfl rfl
theorem dX10_debts_66 : decode cX10_debts 66 = .ok (.iadd, 1) := dw_96 wX10_debts_c rfl
theorem dX10_debts_67 : decode cX10_debts 67 = .ok (.iastore, 1) := dw_79 wX10_debts_c rfl
theorem dX10_debts_68 : decode cX10_debts 68 = .ok (.iinc 1 1, 3) := dw_132 wX10_debts_c 1 1 rfl rfl rfl
theorem dX10_debts_71 : decode cX10_debts 71 = .ok (.goto (-47), 3) := dn_167 wX10_debts_c 255 209 rfl (by decide)
theorem dX10_debts_74 : decode cX10_debts 74 = .ok (.return_, 1) := dw_177 wX10_debts_c rfl
def wNX10_offers : Nat := 21883990482543757304630139160145533510535777767236616248566486092334182164249341036133227959949560407076015573784685138818777113047853281825180549622279515166689401707993905093581825531181525610989005518570166815145035322803168367149542842463542906399601935299626
theorem wX10_offers_c : hz_cd cX10_offers wNX10_offers 109 := ⟨by decide +kernel, by decide +kernel⟩
theorem dX10_offers_0 : decode cX10_offers 0 = .ok (.aload_n 0, 1) := dw_42 wX10_offers_c rfl
theorem dX10_offers_1 : decode cX10_offers 1 = .ok (.getfield 189, 3) := dw_180 wX10_offers_c 0 189 rfl rfl
theorem dX10_offers_4 : decode cX10_offers 4 = .ok (.bipush 40, 2) := dw_16 wX10_offers_c 40 rfl rfl rfl
theorem dX10_offers_6 : decode cX10_offers 6 = .ok (.aload_n 0, 1) := dw_42 wX10_offers_c rfl
theorem dX10_offers_7 : decode cX10_offers 7 = .ok (.getfield 198, 3) := dw_180 wX10_offers_c 0 198 rfl rfl
theorem dX10_offers_10 : decode cX10_offers 10 = .ok (.iload_n 1, 1) := dw_27 wX10_offers_c rfl
theorem dX10_offers_11 : decode cX10_offers 11 = .ok (.iconst 1, 1) := dw_4 wX10_offers_c rfl
theorem dX10_offers_12 : decode cX10_offers 12 = .ok (.isub, 1) := dw_100 wX10_offers_c rfl
theorem dX10_offers_13 : decode cX10_offers 13 = .ok (.iaload, 1) := dw_46 wX10_offers_c rfl
theorem dX10_offers_14 : decode cX10_offers 14 = .ok (.imul, 1) := dw_104 wX10_offers_c rfl
theorem dX10_offers_15 : decode cX10_offers 15 = .ok (.aload_n 0, 1) := dw_42 wX10_offers_c rfl
theorem dX10_offers_16 : decode cX10_offers 16 = .ok (.getfield 198, 3) := dw_180 wX10_offers_c 0 198 rfl rfl
theorem dX10_offers_19 : decode cX10_offers 19 = .ok (.iconst 0, 1) := dw_3 wX10_offers_c rfl
theorem dX10_offers_20 : decode cX10_offers 20 = .ok (.iaload, 1) := dw_46 wX10_offers_c rfl
theorem dX10_offers_21 : decode cX10_offers 21 = .ok (.iadd, 1) := dw_96 wX10_offers_c rfl
theorem dX10_offers_22 : decode cX10_offers 22 = .ok (.iaload, 1) := dw_46 wX10_offers_c rfl
theorem dX10_offers_23 : decode cX10_offers 23 = .ok (.istore_n 3, 1) := dw_62 wX10_offers_c rfl
theorem dX10_offers_24 : decode cX10_offers 24 = .ok (.iload_n 3, 1) := dw_29 wX10_offers_c rfl
theorem dX10_offers_25 : decode cX10_offers 25 = .ok (.iload_n 2, 1) := dw_28 wX10_offers_c rfl
theorem dX10_offers_26 : decode cX10_offers 26 = .ok (.if_icmp .ge 7, 3) := dw_162 wX10_offers_c 0 7 rfl rfl rfl
theorem dX10_offers_29 : decode cX10_offers 29 = .ok (.iload_n 3, 1) := dw_29 wX10_offers_c rfl
theorem dX10_offers_30 : decode cX10_offers 30 = .ok (.goto 4, 3) := dw_167 wX10_offers_c 0 4 rfl rfl rfl
theorem dX10_offers_33 : decode cX10_offers 33 = .ok (.iload_n 2, 1) := dw_28 wX10_offers_c rfl
theorem dX10_offers_34 : decode cX10_offers 34 = .ok (.istore 4, 2) := dw_54 wX10_offers_c 4 rfl
theorem dX10_offers_36 : decode cX10_offers 36 = .ok (.iload 4, 2) := dw_21 wX10_offers_c 4 rfl
theorem dX10_offers_38 : decode cX10_offers 38 = .ok (.ifCond .eq 29, 3) := dw_153 wX10_offers_c 0 29 rfl rfl rfl
theorem dX10_offers_41 : decode cX10_offers 41 = .ok (.iload 4, 2) := dw_21 wX10_offers_c 4 rfl
theorem dX10_offers_43 : decode cX10_offers 43 = .ok (.aload_n 0, 1) := dw_42 wX10_offers_c rfl
theorem dX10_offers_44 : decode cX10_offers 44 = .ok (.getfield 438, 3) := dw_180 wX10_offers_c 1 182 rfl rfl
theorem dX10_offers_47 : decode cX10_offers 47 = .ok (.if_icmp .lt 20, 3) := dw_161 wX10_offers_c 0 20 rfl rfl rfl
theorem dX10_offers_50 : decode cX10_offers 50 = .ok (.iload 4, 2) := dw_21 wX10_offers_c 4 rfl
theorem dX10_offers_52 : decode cX10_offers 52 = .ok (.aload_n 0, 1) := dw_42 wX10_offers_c rfl
theorem dX10_offers_53 : decode cX10_offers 53 = .ok (.getfield 438, 3) := dw_180 wX10_offers_c 1 182 rfl rfl
theorem dX10_offers_56 : decode cX10_offers 56 = .ok (.if_icmp .ne 12, 3) := dw_160 wX10_offers_c 0 12 rfl rfl rfl
theorem dX10_offers_59 : decode cX10_offers 59 = .ok (.iload_n 1, 1) := dw_27 wX10_offers_c rfl
theorem dX10_offers_60 : decode cX10_offers 60 = .ok (.aload_n 0, 1) := dw_42 wX10_offers_c rfl
theorem dX10_offers_61 : decode cX10_offers 61 = .ok (.getfield 441, 3) := dw_180 wX10_offers_c 1 185 rfl rfl
theorem dX10_offers_64 : decode cX10_offers 64 = .ok (.if_icmp .lt 4, 3) := dw_161 wX10_offers_c 0 4 rfl rfl rfl
theorem dX10_offers_67 : decode cX10_offers 67 = .ok (.return_, 1) := dw_177 wX10_offers_c rfl
theorem dX10_offers_68 : decode cX10_offers 68 = .ok (.aload_n 0, 1) := dw_42 wX10_offers_c rfl
theorem dX10_offers_69 : decode cX10_offers 69 = .ok (.iload 4, 2) := dw_21 wX10_offers_c 4 rfl
theorem dX10_offers_71 : decode cX10_offers 71 = .ok (.putfield 438, 3) := dw_181 wX10_offers_c 1 182 rfl rfl
theorem dX10_offers_74 : decode cX10_offers 74 = .ok (.aload_n 0, 1) := dw_42 wX10_offers_c rfl
theorem dX10_offers_75 : decode cX10_offers 75 = .ok (.iload_n 1, 1) := dw_27 wX10_offers_c rfl
theorem dX10_offers_76 : decode cX10_offers 76 = .ok (.putfield 441, 3) := dw_181 wX10_offers_c 1 185 rfl rfl
theorem dX10_offers_79 : decode cX10_offers 79 = .ok (.iconst 0, 1) := dw_3 wX10_offers_c rfl
theorem dX10_offers_80 : decode cX10_offers 80 = .ok (.istore 5, 2) := dw_54 wX10_offers_c 5 rfl
theorem dX10_offers_82 : decode cX10_offers 82 = .ok (.iload 5, 2) := dw_21 wX10_offers_c 5 rfl
theorem dX10_offers_84 : decode cX10_offers 84 = .ok (.iload_n 1, 1) := dw_27 wX10_offers_c rfl
theorem dX10_offers_85 : decode cX10_offers 85 = .ok (.if_icmp .ge 23, 3) := dw_162 wX10_offers_c 0 23 rfl rfl rfl
theorem dX10_offers_88 : decode cX10_offers 88 = .ok (.aload_n 0, 1) := dw_42 wX10_offers_c rfl
theorem dX10_offers_89 : decode cX10_offers 89 = .ok (.getfield 195, 3) := dw_180 wX10_offers_c 0 195 rfl rfl
theorem dX10_offers_92 : decode cX10_offers 92 = .ok (.iload 5, 2) := dw_21 wX10_offers_c 5 rfl
theorem dX10_offers_94 : decode cX10_offers 94 = .ok (.aload_n 0, 1) := dw_42 wX10_offers_c rfl
theorem dX10_offers_95 : decode cX10_offers 95 = .ok (.getfield 198, 3) := dw_180 wX10_offers_c 0 198 rfl rfl
theorem dX10_offers_98 : decode cX10_offers 98 = .ok (.iload 5, 2) := dw_21 wX10_offers_c 5 rfl
theorem dX10_offers_100 : decode cX10_offers 100 = .ok (.iaload, 1) := dw_46 wX10_offers_c rfl
theorem dX10_offers_101 : decode cX10_offers 101 = .ok (.iastore, 1) := dw_79 wX10_offers_c rfl
theorem dX10_offers_102 : decode cX10_offers 102 = .ok (.iinc 5 1, 3) := dw_132 wX10_offers_c 5 1 rfl rfl rfl
theorem dX10_offers_105 : decode cX10_offers 105 = .ok (.goto (-23), 3) := dn_167 wX10_offers_c 255 233 rfl (by decide)
theorem dX10_offers_108 : decode cX10_offers 108 = .ok (.return_, 1) := dw_177 wX10_offers_c rfl
def wNX10_finds : Nat := 3240754097718452773374329099791318725459801054681156535646267442893174691459346980500324986275929782390932792470449362650909311301087100886515566240030738412575015440310151416456264487344201348600945587883291134980036658349492836054427871987707114980370019970815516106712500404044526750976792556146141874363949586966434180545208550259000331324095112621867430458951497507860065117511563767601725809320252829157721811243979087764200139102387792835040598850548969248920648868660403802012645542883808066352974432592532825032325688870203754254364377898
theorem wX10_finds_c : hz_cd cX10_finds wNX10_finds 227 := ⟨by decide +kernel, by decide +kernel⟩
theorem dX10_finds_0 : decode cX10_finds 0 = .ok (.aload_n 0, 1) := dw_42 wX10_finds_c rfl
theorem dX10_finds_1 : decode cX10_finds 1 = .ok (.iconst 0, 1) := dw_3 wX10_finds_c rfl
theorem dX10_finds_2 : decode cX10_finds 2 = .ok (.putfield 438, 3) := dw_181 wX10_finds_c 1 182 rfl rfl
theorem dX10_finds_5 : decode cX10_finds 5 = .ok (.aload_n 0, 1) := dw_42 wX10_finds_c rfl
theorem dX10_finds_6 : decode cX10_finds 6 = .ok (.iconst 0, 1) := dw_3 wX10_finds_c rfl
theorem dX10_finds_7 : decode cX10_finds 7 = .ok (.putfield 441, 3) := dw_181 wX10_finds_c 1 185 rfl rfl
theorem dX10_finds_10 : decode cX10_finds 10 = .ok (.iconst 0, 1) := dw_3 wX10_finds_c rfl
theorem dX10_finds_11 : decode cX10_finds 11 = .ok (.istore_n 1, 1) := dw_60 wX10_finds_c rfl
theorem dX10_finds_12 : decode cX10_finds 12 = .ok (.iload_n 1, 1) := dw_27 wX10_finds_c rfl
theorem dX10_finds_13 : decode cX10_finds 13 = .ok (.aload_n 0, 1) := dw_42 wX10_finds_c rfl
theorem dX10_finds_14 : decode cX10_finds 14 = .ok (.getfield 337, 3) := dw_180 wX10_finds_c 1 81 rfl rfl
theorem dX10_finds_17 : decode cX10_finds 17 = .ok (.if_icmp .ge 209, 3) := dw_162 wX10_finds_c 0 209 rfl rfl rfl
theorem dX10_finds_20 : decode cX10_finds 20 = .ok (.aload_n 0, 1) := dw_42 wX10_finds_c rfl
theorem dX10_finds_21 : decode cX10_finds 21 = .ok (.getfield 198, 3) := dw_180 wX10_finds_c 0 198 rfl rfl
theorem dX10_finds_24 : decode cX10_finds 24 = .ok (.iconst 0, 1) := dw_3 wX10_finds_c rfl
theorem dX10_finds_25 : decode cX10_finds 25 = .ok (.iload_n 1, 1) := dw_27 wX10_finds_c rfl
theorem dX10_finds_26 : decode cX10_finds 26 = .ok (.iastore, 1) := dw_79 wX10_finds_c rfl
theorem dX10_finds_27 : decode cX10_finds 27 = .ok (.iload_n 1, 1) := dw_27 wX10_finds_c rfl
theorem dX10_finds_28 : decode cX10_finds 28 = .ok (.iconst 1, 1) := dw_4 wX10_finds_c rfl
theorem dX10_finds_29 : decode cX10_finds 29 = .ok (.iadd, 1) := dw_96 wX10_finds_c rfl
theorem dX10_finds_30 : decode cX10_finds 30 = .ok (.istore_n 2, 1) := dw_61 wX10_finds_c rfl
theorem dX10_finds_31 : decode cX10_finds 31 = .ok (.iload_n 2, 1) := dw_28 wX10_finds_c rfl
theorem dX10_finds_32 : decode cX10_finds 32 = .ok (.aload_n 0, 1) := dw_42 wX10_finds_c rfl
theorem dX10_finds_33 : decode cX10_finds 33 = .ok (.getfield 337, 3) := dw_180 wX10_finds_c 1 81 rfl rfl
theorem dX10_finds_36 : decode cX10_finds 36 = .ok (.if_icmp .ge 184, 3) := dw_162 wX10_finds_c 0 184 rfl rfl rfl
theorem dX10_finds_39 : decode cX10_finds 39 = .ok (.aload_n 0, 1) := dw_42 wX10_finds_c rfl
theorem dX10_finds_40 : decode cX10_finds 40 = .ok (.getfield 189, 3) := dw_180 wX10_finds_c 0 189 rfl rfl
theorem dX10_finds_43 : decode cX10_finds 43 = .ok (.bipush 40, 2) := dw_16 wX10_finds_c 40 rfl rfl rfl
theorem dX10_finds_45 : decode cX10_finds 45 = .ok (.iload_n 1, 1) := dw_27 wX10_finds_c rfl
theorem dX10_finds_46 : decode cX10_finds 46 = .ok (.imul, 1) := dw_104 wX10_finds_c rfl
theorem dX10_finds_47 : decode cX10_finds 47 = .ok (.iload_n 2, 1) := dw_28 wX10_finds_c rfl
theorem dX10_finds_48 : decode cX10_finds 48 = .ok (.iadd, 1) := dw_96 wX10_finds_c rfl
theorem dX10_finds_49 : decode cX10_finds 49 = .ok (.iaload, 1) := dw_46 wX10_finds_c rfl
theorem dX10_finds_50 : decode cX10_finds 50 = .ok (.istore_n 3, 1) := dw_62 wX10_finds_c rfl
theorem dX10_finds_51 : decode cX10_finds 51 = .ok (.iload_n 3, 1) := dw_29 wX10_finds_c rfl
theorem dX10_finds_52 : decode cX10_finds 52 = .ok (.ifCond .ne 6, 3) := dw_154 wX10_finds_c 0 6 rfl rfl rfl
theorem dX10_finds_55 : decode cX10_finds 55 = .ok (.goto 159, 3) := dw_167 wX10_finds_c 0 159 rfl rfl rfl
theorem dX10_finds_58 : decode cX10_finds 58 = .ok (.aload_n 0, 1) := dw_42 wX10_finds_c rfl
theorem dX10_finds_59 : decode cX10_finds 59 = .ok (.getfield 198, 3) := dw_180 wX10_finds_c 0 198 rfl rfl
theorem dX10_finds_62 : decode cX10_finds 62 = .ok (.iconst 1, 1) := dw_4 wX10_finds_c rfl
theorem dX10_finds_63 : decode cX10_finds 63 = .ok (.iload_n 2, 1) := dw_28 wX10_finds_c rfl
theorem dX10_finds_64 : decode cX10_finds 64 = .ok (.iastore, 1) := dw_79 wX10_finds_c rfl
theorem dX10_finds_65 : decode cX10_finds 65 = .ok (.aload_n 0, 1) := dw_42 wX10_finds_c rfl
theorem dX10_finds_66 : decode cX10_finds 66 = .ok (.iconst 2, 1) := dw_5 wX10_finds_c rfl
theorem dX10_finds_67 : decode cX10_finds 67 = .ok (.iload_n 3, 1) := dw_29 wX10_finds_c rfl
theorem dX10_finds_68 : decode cX10_finds 68 = .ok (.invokevirtual 444, 3) := dw_182 wX10_finds_c 1 188 rfl rfl
theorem dX10_finds_71 : decode cX10_finds 71 = .ok (.iload_n 1, 1) := dw_27 wX10_finds_c rfl
theorem dX10_finds_72 : decode cX10_finds 72 = .ok (.iconst 1, 1) := dw_4 wX10_finds_c rfl
theorem dX10_finds_73 : decode cX10_finds 73 = .ok (.iadd, 1) := dw_96 wX10_finds_c rfl
theorem dX10_finds_74 : decode cX10_finds 74 = .ok (.istore 4, 2) := dw_54 wX10_finds_c 4 rfl
theorem dX10_finds_76 : decode cX10_finds 76 = .ok (.iload 4, 2) := dw_21 wX10_finds_c 4 rfl
theorem dX10_finds_78 : decode cX10_finds 78 = .ok (.aload_n 0, 1) := dw_42 wX10_finds_c rfl
theorem dX10_finds_79 : decode cX10_finds 79 = .ok (.getfield 337, 3) := dw_180 wX10_finds_c 1 81 rfl rfl
theorem dX10_finds_82 : decode cX10_finds 82 = .ok (.if_icmp .ge 132, 3) := dw_162 wX10_finds_c 0 132 rfl rfl rfl
theorem dX10_finds_85 : decode cX10_finds 85 = .ok (.iload_n 3, 1) := dw_29 wX10_finds_c rfl
theorem dX10_finds_86 : decode cX10_finds 86 = .ok (.aload_n 0, 1) := dw_42 wX10_finds_c rfl
theorem dX10_finds_87 : decode cX10_finds 87 = .ok (.getfield 189, 3) := dw_180 wX10_finds_c 0 189 rfl rfl
theorem dX10_finds_90 : decode cX10_finds 90 = .ok (.bipush 40, 2) := dw_16 wX10_finds_c 40 rfl rfl rfl
theorem dX10_finds_92 : decode cX10_finds 92 = .ok (.iload_n 2, 1) := dw_28 wX10_finds_c rfl
theorem dX10_finds_93 : decode cX10_finds 93 = .ok (.imul, 1) := dw_104 wX10_finds_c rfl
theorem dX10_finds_94 : decode cX10_finds 94 = .ok (.iload 4, 2) := dw_21 wX10_finds_c 4 rfl
theorem dX10_finds_96 : decode cX10_finds 96 = .ok (.iadd, 1) := dw_96 wX10_finds_c rfl
theorem dX10_finds_97 : decode cX10_finds 97 = .ok (.iaload, 1) := dw_46 wX10_finds_c rfl
theorem dX10_finds_98 : decode cX10_finds 98 = .ok (.invokestatic 448, 3) := dw_184 wX10_finds_c 1 192 rfl rfl
theorem dX10_finds_101 : decode cX10_finds 101 = .ok (.istore 5, 2) := dw_54 wX10_finds_c 5 rfl
theorem dX10_finds_103 : decode cX10_finds 103 = .ok (.iload 4, 2) := dw_21 wX10_finds_c 4 rfl
theorem dX10_finds_105 : decode cX10_finds 105 = .ok (.iload_n 2, 1) := dw_28 wX10_finds_c rfl
theorem dX10_finds_106 : decode cX10_finds 106 = .ok (.if_icmp .eq 102, 3) := dw_159 wX10_finds_c 0 102 rfl rfl rfl
theorem dX10_finds_109 : decode cX10_finds 109 = .ok (.iload 5, 2) := dw_21 wX10_finds_c 5 rfl
theorem dX10_finds_111 : decode cX10_finds 111 = .ok (.ifCond .ne 6, 3) := dw_154 wX10_finds_c 0 6 rfl rfl rfl
theorem dX10_finds_114 : decode cX10_finds 114 = .ok (.goto 94, 3) := dw_167 wX10_finds_c 0 94 rfl rfl rfl
theorem dX10_finds_117 : decode cX10_finds 117 = .ok (.aload_n 0, 1) := dw_42 wX10_finds_c rfl
theorem dX10_finds_118 : decode cX10_finds 118 = .ok (.getfield 198, 3) := dw_180 wX10_finds_c 0 198 rfl rfl
theorem dX10_finds_121 : decode cX10_finds 121 = .ok (.iconst 2, 1) := dw_5 wX10_finds_c rfl
theorem dX10_finds_122 : decode cX10_finds 122 = .ok (.iload 4, 2) := dw_21 wX10_finds_c 4 rfl
theorem dX10_finds_124 : decode cX10_finds 124 = .ok (.iastore, 1) := dw_79 wX10_finds_c rfl
theorem dX10_finds_125 : decode cX10_finds 125 = .ok (.aload_n 0, 1) := dw_42 wX10_finds_c rfl
theorem dX10_finds_126 : decode cX10_finds 126 = .ok (.iconst 3, 1) := dw_6 wX10_finds_c rfl
theorem dX10_finds_127 : decode cX10_finds 127 = .ok (.iload 5, 2) := dw_21 wX10_finds_c 5 rfl
theorem dX10_finds_129 : decode cX10_finds 129 = .ok (.invokevirtual 444, 3) := dw_182 wX10_finds_c 1 188 rfl rfl
theorem dX10_finds_132 : decode cX10_finds 132 = .ok (.iload_n 1, 1) := dw_27 wX10_finds_c rfl
theorem dX10_finds_133 : decode cX10_finds 133 = .ok (.iconst 1, 1) := dw_4 wX10_finds_c rfl
theorem dX10_finds_134 : decode cX10_finds 134 = .ok (.iadd, 1) := dw_96 wX10_finds_c rfl
theorem dX10_finds_135 : decode cX10_finds 135 = .ok (.istore 6, 2) := dw_54 wX10_finds_c 6 rfl
theorem dX10_finds_137 : decode cX10_finds 137 = .ok (.iload 6, 2) := dw_21 wX10_finds_c 6 rfl
theorem dX10_finds_139 : decode cX10_finds 139 = .ok (.aload_n 0, 1) := dw_42 wX10_finds_c rfl
theorem dX10_finds_140 : decode cX10_finds 140 = .ok (.getfield 337, 3) := dw_180 wX10_finds_c 1 81 rfl rfl
theorem dX10_finds_143 : decode cX10_finds 143 = .ok (.if_icmp .ge 65, 3) := dw_162 wX10_finds_c 0 65 rfl rfl rfl
theorem dX10_finds_146 : decode cX10_finds 146 = .ok (.iload 5, 2) := dw_21 wX10_finds_c 5 rfl
theorem dX10_finds_148 : decode cX10_finds 148 = .ok (.aload_n 0, 1) := dw_42 wX10_finds_c rfl
theorem dX10_finds_149 : decode cX10_finds 149 = .ok (.getfield 189, 3) := dw_180 wX10_finds_c 0 189 rfl rfl
theorem dX10_finds_152 : decode cX10_finds 152 = .ok (.bipush 40, 2) := dw_16 wX10_finds_c 40 rfl rfl rfl
theorem dX10_finds_154 : decode cX10_finds 154 = .ok (.iload 4, 2) := dw_21 wX10_finds_c 4 rfl
theorem dX10_finds_156 : decode cX10_finds 156 = .ok (.imul, 1) := dw_104 wX10_finds_c rfl
theorem dX10_finds_157 : decode cX10_finds 157 = .ok (.iload 6, 2) := dw_21 wX10_finds_c 6 rfl
theorem dX10_finds_159 : decode cX10_finds 159 = .ok (.iadd, 1) := dw_96 wX10_finds_c rfl
theorem dX10_finds_160 : decode cX10_finds 160 = .ok (.iaload, 1) := dw_46 wX10_finds_c rfl
theorem dX10_finds_161 : decode cX10_finds 161 = .ok (.invokestatic 448, 3) := dw_184 wX10_finds_c 1 192 rfl rfl
theorem dX10_finds_164 : decode cX10_finds 164 = .ok (.istore 7, 2) := dw_54 wX10_finds_c 7 rfl
theorem dX10_finds_166 : decode cX10_finds 166 = .ok (.iload 6, 2) := dw_21 wX10_finds_c 6 rfl
theorem dX10_finds_168 : decode cX10_finds 168 = .ok (.iload_n 2, 1) := dw_28 wX10_finds_c rfl
theorem dX10_finds_169 : decode cX10_finds 169 = .ok (.if_icmp .eq 33, 3) := dw_159 wX10_finds_c 0 33 rfl rfl rfl
theorem dX10_finds_172 : decode cX10_finds 172 = .ok (.iload 6, 2) := dw_21 wX10_finds_c 6 rfl
theorem dX10_finds_174 : decode cX10_finds 174 = .ok (.iload 4, 2) := dw_21 wX10_finds_c 4 rfl
theorem dX10_finds_176 : decode cX10_finds 176 = .ok (.if_icmp .eq 26, 3) := dw_159 wX10_finds_c 0 26 rfl rfl rfl
theorem dX10_finds_179 : decode cX10_finds 179 = .ok (.iload 7, 2) := dw_21 wX10_finds_c 7 rfl
theorem dX10_finds_181 : decode cX10_finds 181 = .ok (.ifCond .ne 6, 3) := dw_154 wX10_finds_c 0 6 rfl rfl rfl
theorem dX10_finds_184 : decode cX10_finds 184 = .ok (.goto 18, 3) := dw_167 wX10_finds_c 0 18 rfl rfl rfl
theorem dX10_finds_187 : decode cX10_finds 187 = .ok (.aload_n 0, 1) := dw_42 wX10_finds_c rfl
theorem dX10_finds_188 : decode cX10_finds 188 = .ok (.getfield 198, 3) := dw_180 wX10_finds_c 0 198 rfl rfl
theorem dX10_finds_191 : decode cX10_finds 191 = .ok (.iconst 3, 1) := dw_6 wX10_finds_c rfl
theorem dX10_finds_192 : decode cX10_finds 192 = .ok (.iload 6, 2) := dw_21 wX10_finds_c 6 rfl
theorem dX10_finds_194 : decode cX10_finds 194 = .ok (.iastore, 1) := dw_79 wX10_finds_c rfl
theorem dX10_finds_195 : decode cX10_finds 195 = .ok (.aload_n 0, 1) := dw_42 wX10_finds_c rfl
theorem dX10_finds_196 : decode cX10_finds 196 = .ok (.iconst 4, 1) := dw_7 wX10_finds_c rfl
theorem dX10_finds_197 : decode cX10_finds 197 = .ok (.iload 7, 2) := dw_21 wX10_finds_c 7 rfl
theorem dX10_finds_199 : decode cX10_finds 199 = .ok (.invokevirtual 444, 3) := dw_182 wX10_finds_c 1 188 rfl rfl
theorem dX10_finds_202 : decode cX10_finds 202 = .ok (.iinc 6 1, 3) := dw_132 wX10_finds_c 6 1 rfl rfl rfl
theorem dX10_finds_205 : decode cX10_finds 205 = .ok (.goto (-68), 3) := dn_167 wX10_finds_c 255 188 rfl (by decide)
theorem dX10_finds_208 : decode cX10_finds 208 = .ok (.iinc 4 1, 3) := dw_132 wX10_finds_c 4 1 rfl rfl rfl
theorem dX10_finds_211 : decode cX10_finds 211 = .ok (.goto (-135), 3) := dn_167 wX10_finds_c 255 121 rfl (by decide)
theorem dX10_finds_214 : decode cX10_finds 214 = .ok (.iinc 2 1, 3) := dw_132 wX10_finds_c 2 1 rfl rfl rfl
theorem dX10_finds_217 : decode cX10_finds 217 = .ok (.goto (-186), 3) := dn_167 wX10_finds_c 255 70 rfl (by decide)
theorem dX10_finds_220 : decode cX10_finds 220 = .ok (.iinc 1 1, 3) := dw_132 wX10_finds_c 1 1 rfl rfl rfl
theorem dX10_finds_223 : decode cX10_finds 223 = .ok (.goto (-211), 3) := dn_167 wX10_finds_c 255 45 rfl (by decide)
theorem dX10_finds_226 : decode cX10_finds 226 = .ok (.return_, 1) := dw_177 wX10_finds_c rfl
def wNX10_netted : Nat := 26474434767166304409986200275932325419376849144474934619565882884597170504491400800735302248386837596359178546426922
theorem wX10_netted_c : hz_cd cX10_netted wNX10_netted 48 := ⟨by decide +kernel, by decide +kernel⟩
theorem dX10_netted_0 : decode cX10_netted 0 = .ok (.aload_n 0, 1) := dw_42 wX10_netted_c rfl
theorem dX10_netted_1 : decode cX10_netted 1 = .ok (.getfield 451, 3) := dw_180 wX10_netted_c 1 195 rfl rfl
theorem dX10_netted_4 : decode cX10_netted 4 = .ok (.ifCond .ne 7, 3) := dw_154 wX10_netted_c 0 7 rfl rfl rfl
theorem dX10_netted_7 : decode cX10_netted 7 = .ok (.iconst (-1), 1) := dw_2 wX10_netted_c rfl
theorem dX10_netted_8 : decode cX10_netted 8 = .ok (.goto 39, 3) := dw_167 wX10_netted_c 0 39 rfl rfl rfl
theorem dX10_netted_11 : decode cX10_netted 11 = .ok (.iload_n 1, 1) := dw_27 wX10_netted_c rfl
theorem dX10_netted_12 : decode cX10_netted 12 = .ok (.iconst (-1), 1) := dw_2 wX10_netted_c rfl
theorem dX10_netted_13 : decode cX10_netted 13 = .ok (.if_icmp .ne 10, 3) := dw_160 wX10_netted_c 0 10 rfl rfl rfl
theorem dX10_netted_16 : decode cX10_netted 16 = .ok (.aload_n 0, 1) := dw_42 wX10_netted_c rfl
theorem dX10_netted_17 : decode cX10_netted 17 = .ok (.getfield 455, 3) := dw_180 wX10_netted_c 1 199 rfl rfl
theorem dX10_netted_20 : decode cX10_netted 20 = .ok (.goto 27, 3) := dw_167 wX10_netted_c 0 27 rfl rfl rfl
theorem dX10_netted_23 : decode cX10_netted 23 = .ok (.iload_n 1, 1) := dw_27 wX10_netted_c rfl
theorem dX10_netted_24 : decode cX10_netted 24 = .ok (.iconst 0, 1) := dw_3 wX10_netted_c rfl
theorem dX10_netted_25 : decode cX10_netted 25 = .ok (.aload_n 0, 1) := dw_42 wX10_netted_c rfl
theorem dX10_netted_26 : decode cX10_netted 26 = .ok (.getfield 455, 3) := dw_180 wX10_netted_c 1 199 rfl rfl
theorem dX10_netted_29 : decode cX10_netted 29 = .ok (.iconst 1, 1) := dw_4 wX10_netted_c rfl
theorem dX10_netted_30 : decode cX10_netted 30 = .ok (.isub, 1) := dw_100 wX10_netted_c rfl
theorem dX10_netted_31 : decode cX10_netted 31 = .ok (.invokestatic 228, 3) := dw_184 wX10_netted_c 0 228 rfl rfl
theorem dX10_netted_34 : decode cX10_netted 34 = .ok (.ifCond .eq 12, 3) := dw_153 wX10_netted_c 0 12 rfl rfl rfl
theorem dX10_netted_37 : decode cX10_netted 37 = .ok (.aload_n 0, 1) := dw_42 wX10_netted_c rfl
theorem dX10_netted_38 : decode cX10_netted 38 = .ok (.getfield 192, 3) := dw_180 wX10_netted_c 0 192 rfl rfl
theorem dX10_netted_41 : decode cX10_netted 41 = .ok (.iload_n 1, 1) := dw_27 wX10_netted_c rfl
theorem dX10_netted_42 : decode cX10_netted 42 = .ok (.iaload, 1) := dw_46 wX10_netted_c rfl
theorem dX10_netted_43 : decode cX10_netted 43 = .ok (.goto 4, 3) := dw_167 wX10_netted_c 0 4 rfl rfl rfl
theorem dX10_netted_46 : decode cX10_netted 46 = .ok (.iconst (-1), 1) := dw_2 wX10_netted_c rfl
theorem dX10_netted_47 : decode cX10_netted 47 = .ok (.ireturn, 1) := dw_172 wX10_netted_c rfl
end
