
theorem dX10_weeksOf_0 : decode cX10_weeksOf 0 = .ok (.aload_n 0, 1) := by decide +kernel
theorem dX10_weeksOf_1 : decode cX10_weeksOf 1 = .ok (.getfield 177, 3) := by decide +kernel
theorem dX10_weeksOf_4 : decode cX10_weeksOf 4 = .ok (.iload_n 1, 1) := by decide +kernel
theorem dX10_weeksOf_5 : decode cX10_weeksOf 5 = .ok (.iaload, 1) := by decide +kernel
theorem dX10_weeksOf_6 : decode cX10_weeksOf 6 = .ok (.iload_n 2, 1) := by decide +kernel
theorem dX10_weeksOf_7 : decode cX10_weeksOf 7 = .ok (.iload_n 3, 1) := by decide +kernel
theorem dX10_weeksOf_8 : decode cX10_weeksOf 8 = .ok (.imul, 1) := by decide +kernel
theorem dX10_weeksOf_9 : decode cX10_weeksOf 9 = .ok (.iadd, 1) := by decide +kernel
theorem dX10_weeksOf_10 : decode cX10_weeksOf 10 = .ok (.istore 4, 2) := by decide +kernel
theorem dX10_weeksOf_12 : decode cX10_weeksOf 12 = .ok (.aload_n 0, 1) := by decide +kernel
theorem dX10_weeksOf_13 : decode cX10_weeksOf 13 = .ok (.getfield 174, 3) := by decide +kernel
theorem dX10_weeksOf_16 : decode cX10_weeksOf 16 = .ok (.iload_n 1, 1) := by decide +kernel
theorem dX10_weeksOf_17 : decode cX10_weeksOf 17 = .ok (.iaload, 1) := by decide +kernel
theorem dX10_weeksOf_18 : decode cX10_weeksOf 18 = .ok (.iload 4, 2) := by decide +kernel
theorem dX10_weeksOf_20 : decode cX10_weeksOf 20 = .ok (.iadd, 1) := by decide +kernel
theorem dX10_weeksOf_21 : decode cX10_weeksOf 21 = .ok (.iconst 1, 1) := by decide +kernel
theorem dX10_weeksOf_22 : decode cX10_weeksOf 22 = .ok (.isub, 1) := by decide +kernel
theorem dX10_weeksOf_23 : decode cX10_weeksOf 23 = .ok (.iload 4, 2) := by decide +kernel
theorem dX10_weeksOf_25 : decode cX10_weeksOf 25 = .ok (.idiv, 1) := by decide +kernel
theorem dX10_weeksOf_26 : decode cX10_weeksOf 26 = .ok (.ireturn, 1) := by decide +kernel
def wNX10_plan : Nat := 262561038005215289767552208456793037325545967589197935550019451761172642780494932453543665110558174406611087459015676134520782371411733191055724713485986346413857372447593843214361941936669669304780532797969823554144228907294548323516562665724890304485354766194323820032000274351887737675721758642803553656824960324031709223749244663897182852249829463321823041462707120051033101464440593109113592956516159297709013891503062687189244108940068782151324612852052605882510892007111360575024402541750521783980287575757656268037236107199633559857885352695081454026907193953843193459062341943148827437471524664366596864880127186963783424555675695088445800483686113492861674146583397287425867708624689351163773640646675699182133521459802772194830856659142999109478020332297926439742351092019452209671116693751332317392658391169433700159492008391403812296970966579862491476831586013299266389579803387312261388608653016715007687205965295106898879573422420189485243951488607458489248696314713807300475367695077869023356330939644340830435836435347746003977724784953649150522190299819645650805420368348950135174847437559565062404787459234766821080174534594882504371556430603592049101979825023557240075871153824291148460316052126828780500922191313662917464367091531308083772131189383151613419854634
theorem wX10_plan_c : hz_cd cX10_plan wNX10_plan 533 := ⟨by decide +kernel, by decide +kernel⟩
theorem dX10_plan_0 : decode cX10_plan 0 = .ok (.aload_n 0, 1) := dw_42 wX10_plan_c rfl
theorem dX10_plan_1 : decode cX10_plan 1 = .ok (.iload_n 1, 1) := dw_27 wX10_plan_c rfl
theorem dX10_plan_2 : decode cX10_plan 2 = .ok (.invokevirtual 348, 3) := dw_182 wX10_plan_c 1 92 rfl rfl
theorem dX10_plan_5 : decode cX10_plan 5 = .ok (.ifCond .eq 13, 3) := dw_153 wX10_plan_c 0 13 rfl rfl rfl
theorem dX10_plan_8 : decode cX10_plan 8 = .ok (.iload_n 2, 1) := dw_28 wX10_plan_c rfl
theorem dX10_plan_9 : decode cX10_plan 9 = .ok (.iconst 1, 1) := dw_4 wX10_plan_c rfl
theorem dX10_plan_10 : decode cX10_plan 10 = .ok (.bipush 99, 2) := dw_16 wX10_plan_c 99 rfl rfl rfl
theorem dX10_plan_12 : decode cX10_plan 12 = .ok (.invokestatic 228, 3) := dw_184 wX10_plan_c 0 228 rfl rfl
theorem dX10_plan_15 : decode cX10_plan 15 = .ok (.ifCond .ne 5, 3) := dw_154 wX10_plan_c 0 5 rfl rfl rfl
theorem dX10_plan_18 : decode cX10_plan 18 = .ok (.iconst (-1), 1) := dw_2 wX10_plan_c rfl
theorem dX10_plan_19 : decode cX10_plan 19 = .ok (.ireturn, 1) := dw_172 wX10_plan_c rfl
theorem dX10_plan_20 : decode cX10_plan 20 = .ok (.aload_n 0, 1) := dw_42 wX10_plan_c rfl
theorem dX10_plan_21 : decode cX10_plan 21 = .ok (.iconst 0, 1) := dw_3 wX10_plan_c rfl
theorem dX10_plan_22 : decode cX10_plan 22 = .ok (.putfield 428, 3) := dw_181 wX10_plan_c 1 172 rfl rfl
theorem dX10_plan_25 : decode cX10_plan 25 = .ok (.iconst 0, 1) := dw_3 wX10_plan_c rfl
theorem dX10_plan_26 : decode cX10_plan 26 = .ok (.istore_n 3, 1) := dw_62 wX10_plan_c rfl
theorem dX10_plan_27 : decode cX10_plan 27 = .ok (.iload_n 3, 1) := dw_29 wX10_plan_c rfl
theorem dX10_plan_28 : decode cX10_plan 28 = .ok (.aload_n 0, 1) := dw_42 wX10_plan_c rfl
theorem dX10_plan_29 : decode cX10_plan 29 = .ok (.getfield 367, 3) := dw_180 wX10_plan_c 1 111 rfl rfl
theorem dX10_plan_32 : decode cX10_plan 32 = .ok (.if_icmp .ge 123, 3) := dw_162 wX10_plan_c 0 123 rfl rfl rfl
theorem dX10_plan_35 : decode cX10_plan 35 = .ok (.aload_n 0, 1) := dw_42 wX10_plan_c rfl
theorem dX10_plan_36 : decode cX10_plan 36 = .ok (.getfield 84, 3) := dw_180 wX10_plan_c 0 84 rfl rfl
theorem dX10_plan_39 : decode cX10_plan 39 = .ok (.iload_n 3, 1) := dw_29 wX10_plan_c rfl
theorem dX10_plan_40 : decode cX10_plan 40 = .ok (.iaload, 1) := dw_46 wX10_plan_c rfl
theorem dX10_plan_41 : decode cX10_plan 41 = .ok (.iload_n 1, 1) := dw_27 wX10_plan_c rfl
theorem dX10_plan_42 : decode cX10_plan 42 = .ok (.if_icmp .ne 107, 3) := dw_160 wX10_plan_c 0 107 rfl rfl rfl
theorem dX10_plan_45 : decode cX10_plan 45 = .ok (.aload_n 0, 1) := dw_42 wX10_plan_c rfl
theorem dX10_plan_46 : decode cX10_plan 46 = .ok (.iload_n 3, 1) := dw_29 wX10_plan_c rfl
theorem dX10_plan_47 : decode cX10_plan 47 = .ok (.invokevirtual 419, 3) := dw_182 wX10_plan_c 1 163 rfl rfl
theorem dX10_plan_50 : decode cX10_plan 50 = .ok (.ifCond .ne 6, 3) := dw_154 wX10_plan_c 0 6 rfl rfl rfl
theorem dX10_plan_53 : decode cX10_plan 53 = .ok (.goto 96, 3) := dw_167 wX10_plan_c 0 96 rfl rfl rfl
theorem dX10_plan_56 : decode cX10_plan 56 = .ok (.aload_n 0, 1) := dw_42 wX10_plan_c rfl
theorem dX10_plan_57 : decode cX10_plan 57 = .ok (.getfield 428, 3) := dw_180 wX10_plan_c 1 172 rfl rfl
theorem dX10_plan_60 : decode cX10_plan 60 = .ok (.iconst 4, 1) := dw_7 wX10_plan_c rfl
theorem dX10_plan_61 : decode cX10_plan 61 = .ok (.if_icmp .ne 5, 3) := dw_160 wX10_plan_c 0 5 rfl rfl rfl
theorem dX10_plan_64 : decode cX10_plan 64 = .ok (.iconst (-1), 1) := dw_2 wX10_plan_c rfl
theorem dX10_plan_65 : decode cX10_plan 65 = .ok (.ireturn, 1) := dw_172 wX10_plan_c rfl
theorem dX10_plan_66 : decode cX10_plan 66 = .ok (.aload_n 0, 1) := dw_42 wX10_plan_c rfl
theorem dX10_plan_67 : decode cX10_plan 67 = .ok (.aload_n 0, 1) := dw_42 wX10_plan_c rfl
theorem dX10_plan_68 : decode cX10_plan 68 = .ok (.getfield 102, 3) := dw_180 wX10_plan_c 0 102 rfl rfl
theorem dX10_plan_71 : decode cX10_plan 71 = .ok (.iload_n 3, 1) := dw_29 wX10_plan_c rfl
theorem dX10_plan_72 : decode cX10_plan 72 = .ok (.iaload, 1) := dw_46 wX10_plan_c rfl
theorem dX10_plan_73 : decode cX10_plan 73 = .ok (.iconst 2, 1) := dw_5 wX10_plan_c rfl
theorem dX10_plan_74 : decode cX10_plan 74 = .ok (.invokevirtual 333, 3) := dw_182 wX10_plan_c 1 77 rfl rfl
theorem dX10_plan_77 : decode cX10_plan 77 = .ok (.istore 4, 2) := dw_54 wX10_plan_c 4 rfl
theorem dX10_plan_79 : decode cX10_plan 79 = .ok (.aload_n 0, 1) := dw_42 wX10_plan_c rfl
theorem dX10_plan_80 : decode cX10_plan 80 = .ok (.getfield 171, 3) := dw_180 wX10_plan_c 0 171 rfl rfl
theorem dX10_plan_83 : decode cX10_plan 83 = .ok (.aload_n 0, 1) := dw_42 wX10_plan_c rfl
theorem dX10_plan_84 : decode cX10_plan 84 = .ok (.getfield 428, 3) := dw_180 wX10_plan_c 1 172 rfl rfl
theorem dX10_plan_87 : decode cX10_plan 87 = .ok (.iload_n 3, 1) := dw_29 wX10_plan_c rfl
theorem dX10_plan_88 : decode cX10_plan 88 = .ok (.iastore, 1) := dw_79 wX10_plan_c rfl
theorem dX10_plan_89 : decode cX10_plan 89 = .ok (.aload_n 0, 1) := dw_42 wX10_plan_c rfl
theorem dX10_plan_90 : decode cX10_plan 90 = .ok (.getfield 174, 3) := dw_180 wX10_plan_c 0 174 rfl rfl
theorem dX10_plan_93 : decode cX10_plan 93 = .ok (.aload_n 0, 1) := dw_42 wX10_plan_c rfl
theorem dX10_plan_94 : decode cX10_plan 94 = .ok (.getfield 428, 3) := dw_180 wX10_plan_c 1 172 rfl rfl
theorem dX10_plan_97 : decode cX10_plan 97 = .ok (.aload_n 0, 1) := dw_42 wX10_plan_c rfl
theorem dX10_plan_98 : decode cX10_plan 98 = .ok (.getfield 401, 3) := dw_180 wX10_plan_c 1 145 rfl rfl
theorem dX10_plan_101 : decode cX10_plan 101 = .ok (.iastore, 1) := dw_79 wX10_plan_c rfl
theorem dX10_plan_102 : decode cX10_plan 102 = .ok (.aload_n 0, 1) := dw_42 wX10_plan_c rfl
theorem dX10_plan_103 : decode cX10_plan 103 = .ok (.getfield 177, 3) := dw_180 wX10_plan_c 0 177 rfl rfl
theorem dX10_plan_106 : decode cX10_plan 106 = .ok (.aload_n 0, 1) := dw_42 wX10_plan_c rfl
theorem dX10_plan_107 : decode cX10_plan 107 = .ok (.getfield 428, 3) := dw_180 wX10_plan_c 1 172 rfl rfl
theorem dX10_plan_110 : decode cX10_plan 110 = .ok (.iload 4, 2) := dw_21 wX10_plan_c 4 rfl
theorem dX10_plan_112 : decode cX10_plan 112 = .ok (.aload_n 0, 1) := dw_42 wX10_plan_c rfl
theorem dX10_plan_113 : decode cX10_plan 113 = .ok (.getfield 401, 3) := dw_180 wX10_plan_c 1 145 rfl rfl
theorem dX10_plan_116 : decode cX10_plan 116 = .ok (.if_icmp .ge 8, 3) := dw_162 wX10_plan_c 0 8 rfl rfl rfl
theorem dX10_plan_119 : decode cX10_plan 119 = .ok (.iload 4, 2) := dw_21 wX10_plan_c 4 rfl
theorem dX10_plan_121 : decode cX10_plan 121 = .ok (.goto 7, 3) := dw_167 wX10_plan_c 0 7 rfl rfl rfl
theorem dX10_plan_124 : decode cX10_plan 124 = .ok (.aload_n 0, 1) := dw_42 wX10_plan_c rfl
theorem dX10_plan_125 : decode cX10_plan 125 = .ok (.getfield 401, 3) := dw_180 wX10_plan_c 1 145 rfl rfl
theorem dX10_plan_128 : decode cX10_plan 128 = .ok (.iastore, 1) := dw_79 wX10_plan_c rfl
theorem dX10_plan_129 : decode cX10_plan 129 = .ok (.aload_n 0, 1) := dw_42 wX10_plan_c rfl
theorem dX10_plan_130 : decode cX10_plan 130 = .ok (.getfield 180, 3) := dw_180 wX10_plan_c 0 180 rfl rfl
theorem dX10_plan_133 : decode cX10_plan 133 = .ok (.aload_n 0, 1) := dw_42 wX10_plan_c rfl
theorem dX10_plan_134 : decode cX10_plan 134 = .ok (.getfield 428, 3) := dw_180 wX10_plan_c 1 172 rfl rfl
theorem dX10_plan_137 : decode cX10_plan 137 = .ok (.iconst 0, 1) := dw_3 wX10_plan_c rfl
theorem dX10_plan_138 : decode cX10_plan 138 = .ok (.iastore, 1) := dw_79 wX10_plan_c rfl
theorem dX10_plan_139 : decode cX10_plan 139 = .ok (.aload_n 0, 1) := dw_42 wX10_plan_c rfl
theorem dX10_plan_140 : decode cX10_plan 140 = .ok (.dup, 1) := dw_89 wX10_plan_c rfl
theorem dX10_plan_141 : decode cX10_plan 141 = .ok (.getfield 428, 3) := dw_180 wX10_plan_c 1 172 rfl rfl
theorem dX10_plan_144 : decode cX10_plan 144 = .ok (.iconst 1, 1) := dw_4 wX10_plan_c rfl
theorem dX10_plan_145 : decode cX10_plan 145 = .ok (.iadd, 1) := dw_96 wX10_plan_c rfl
theorem dX10_plan_146 : decode cX10_plan 146 = .ok (.putfield 428, 3) := dw_181 wX10_plan_c 1 172 rfl rfl
theorem dX10_plan_149 : decode cX10_plan 149 = .ok (.iinc 3 1, 3) := dw_132 wX10_plan_c 3 1 rfl rfl rfl
theorem dX10_plan_152 : decode cX10_plan 152 = .ok (.goto (-125), 3) := dn_167 wX10_plan_c 255 131 rfl (by decide)
theorem dX10_plan_155 : decode cX10_plan 155 = .ok (.aload_n 0, 1) := dw_42 wX10_plan_c rfl
theorem dX10_plan_156 : decode cX10_plan 156 = .ok (.iload_n 1, 1) := dw_27 wX10_plan_c rfl
theorem dX10_plan_157 : decode cX10_plan 157 = .ok (.aload_n 0, 1) := dw_42 wX10_plan_c rfl
theorem dX10_plan_158 : decode cX10_plan 158 = .ok (.aload_n 0, 1) := dw_42 wX10_plan_c rfl
theorem dX10_plan_159 : decode cX10_plan 159 = .ok (.getfield 232, 3) := dw_180 wX10_plan_c 0 232 rfl rfl
theorem dX10_plan_162 : decode cX10_plan 162 = .ok (.invokevirtual 330, 3) := dw_182 wX10_plan_c 1 74 rfl rfl
theorem dX10_plan_165 : decode cX10_plan 165 = .ok (.invokevirtual 422, 3) := dw_182 wX10_plan_c 1 166 rfl rfl
theorem dX10_plan_168 : decode cX10_plan 168 = .ok (.istore_n 3, 1) := dw_62 wX10_plan_c rfl
theorem dX10_plan_169 : decode cX10_plan 169 = .ok (.aload_n 0, 1) := dw_42 wX10_plan_c rfl
theorem dX10_plan_170 : decode cX10_plan 170 = .ok (.getfield 428, 3) := dw_180 wX10_plan_c 1 172 rfl rfl
theorem dX10_plan_173 : decode cX10_plan 173 = .ok (.ifCond .ne 7, 3) := dw_154 wX10_plan_c 0 7 rfl rfl rfl
theorem dX10_plan_176 : decode cX10_plan 176 = .ok (.iconst 0, 1) := dw_3 wX10_plan_c rfl
theorem dX10_plan_177 : decode cX10_plan 177 = .ok (.goto 6, 3) := dw_167 wX10_plan_c 0 6 rfl rfl rfl
theorem dX10_plan_180 : decode cX10_plan 180 = .ok (.ldc_w 431, 3) := dw_19 wX10_plan_c 1 175 rfl rfl
theorem dX10_plan_183 : decode cX10_plan 183 = .ok (.istore 4, 2) := dw_54 wX10_plan_c 4 rfl
theorem dX10_plan_185 : decode cX10_plan 185 = .ok (.ldc_w 431, 3) := dw_19 wX10_plan_c 1 175 rfl rfl
theorem dX10_plan_188 : decode cX10_plan 188 = .ok (.istore 5, 2) := dw_54 wX10_plan_c 5 rfl
theorem dX10_plan_190 : decode cX10_plan 190 = .ok (.aload_n 0, 1) := dw_42 wX10_plan_c rfl
theorem dX10_plan_191 : decode cX10_plan 191 = .ok (.getfield 428, 3) := dw_180 wX10_plan_c 1 172 rfl rfl
theorem dX10_plan_194 : decode cX10_plan 194 = .ok (.ifCond .le 7, 3) := dw_158 wX10_plan_c 0 7 rfl rfl rfl
theorem dX10_plan_197 : decode cX10_plan 197 = .ok (.iconst 1, 1) := dw_4 wX10_plan_c rfl
theorem dX10_plan_198 : decode cX10_plan 198 = .ok (.goto 4, 3) := dw_167 wX10_plan_c 0 4 rfl rfl rfl
theorem dX10_plan_201 : decode cX10_plan 201 = .ok (.iconst 0, 1) := dw_3 wX10_plan_c rfl
theorem dX10_plan_202 : decode cX10_plan 202 = .ok (.istore 6, 2) := dw_54 wX10_plan_c 6 rfl
theorem dX10_plan_204 : decode cX10_plan 204 = .ok (.iload 6, 2) := dw_21 wX10_plan_c 6 rfl
theorem dX10_plan_206 : decode cX10_plan 206 = .ok (.ifCond .eq 228, 3) := dw_153 wX10_plan_c 0 228 rfl rfl rfl
theorem dX10_plan_209 : decode cX10_plan 209 = .ok (.iconst 0, 1) := dw_3 wX10_plan_c rfl
theorem dX10_plan_210 : decode cX10_plan 210 = .ok (.istore 7, 2) := dw_54 wX10_plan_c 7 rfl
theorem dX10_plan_212 : decode cX10_plan 212 = .ok (.iconst 0, 1) := dw_3 wX10_plan_c rfl
theorem dX10_plan_213 : decode cX10_plan 213 = .ok (.istore 8, 2) := dw_54 wX10_plan_c 8 rfl
theorem dX10_plan_215 : decode cX10_plan 215 = .ok (.iconst 0, 1) := dw_3 wX10_plan_c rfl
theorem dX10_plan_216 : decode cX10_plan 216 = .ok (.istore 9, 2) := dw_54 wX10_plan_c 9 rfl
theorem dX10_plan_218 : decode cX10_plan 218 = .ok (.iconst 0, 1) := dw_3 wX10_plan_c rfl
theorem dX10_plan_219 : decode cX10_plan 219 = .ok (.istore 10, 2) := dw_54 wX10_plan_c 10 rfl
theorem dX10_plan_221 : decode cX10_plan 221 = .ok (.iload 10, 2) := dw_21 wX10_plan_c 10 rfl
theorem dX10_plan_223 : decode cX10_plan 223 = .ok (.aload_n 0, 1) := dw_42 wX10_plan_c rfl
theorem dX10_plan_224 : decode cX10_plan 224 = .ok (.getfield 428, 3) := dw_180 wX10_plan_c 1 172 rfl rfl
theorem dX10_plan_227 : decode cX10_plan 227 = .ok (.if_icmp .ge 70, 3) := dw_162 wX10_plan_c 0 70 rfl rfl rfl
theorem dX10_plan_230 : decode cX10_plan 230 = .ok (.aload_n 0, 1) := dw_42 wX10_plan_c rfl
theorem dX10_plan_231 : decode cX10_plan 231 = .ok (.iload 10, 2) := dw_21 wX10_plan_c 10 rfl
theorem dX10_plan_233 : decode cX10_plan 233 = .ok (.aload_n 0, 1) := dw_42 wX10_plan_c rfl
theorem dX10_plan_234 : decode cX10_plan 234 = .ok (.getfield 180, 3) := dw_180 wX10_plan_c 0 180 rfl rfl
theorem dX10_plan_237 : decode cX10_plan 237 = .ok (.iload 10, 2) := dw_21 wX10_plan_c 10 rfl
theorem dX10_plan_239 : decode cX10_plan 239 = .ok (.iaload, 1) := dw_46 wX10_plan_c rfl
theorem dX10_plan_240 : decode cX10_plan 240 = .ok (.iload_n 2, 1) := dw_28 wX10_plan_c rfl
theorem dX10_plan_241 : decode cX10_plan 241 = .ok (.invokevirtual 432, 3) := dw_182 wX10_plan_c 1 176 rfl rfl
theorem dX10_plan_244 : decode cX10_plan 244 = .ok (.istore 11, 2) := dw_54 wX10_plan_c 11 rfl
theorem dX10_plan_246 : decode cX10_plan 246 = .ok (.iload 7, 2) := dw_21 wX10_plan_c 7 rfl
theorem dX10_plan_248 : decode cX10_plan 248 = .ok (.aload_n 0, 1) := dw_42 wX10_plan_c rfl
theorem dX10_plan_249 : decode cX10_plan 249 = .ok (.getfield 177, 3) := dw_180 wX10_plan_c 0 177 rfl rfl
theorem dX10_plan_252 : decode cX10_plan 252 = .ok (.iload 10, 2) := dw_21 wX10_plan_c 10 rfl
theorem dX10_plan_254 : decode cX10_plan 254 = .ok (.iaload, 1) := dw_46 wX10_plan_c rfl
theorem dX10_plan_255 : decode cX10_plan 255 = .ok (.aload_n 0, 1) := dw_42 wX10_plan_c rfl
theorem dX10_plan_256 : decode cX10_plan 256 = .ok (.getfield 180, 3) := dw_180 wX10_plan_c 0 180 rfl rfl
theorem dX10_plan_259 : decode cX10_plan 259 = .ok (.iload 10, 2) := dw_21 wX10_plan_c 10 rfl
theorem dX10_plan_261 : decode cX10_plan 261 = .ok (.iaload, 1) := dw_46 wX10_plan_c rfl
theorem dX10_plan_262 : decode cX10_plan 262 = .ok (.iload_n 2, 1) := dw_28 wX10_plan_c rfl
theorem dX10_plan_263 : decode cX10_plan 263 = .ok (.imul, 1) := dw_104 wX10_plan_c rfl
theorem dX10_plan_264 : decode cX10_plan 264 = .ok (.iadd, 1) := dw_96 wX10_plan_c rfl
theorem dX10_plan_265 : decode cX10_plan 265 = .ok (.iadd, 1) := dw_96 wX10_plan_c rfl
theorem dX10_plan_266 : decode cX10_plan 266 = .ok (.istore 7, 2) := dw_54 wX10_plan_c 7 rfl
theorem dX10_plan_268 : decode cX10_plan 268 = .ok (.iload 11, 2) := dw_21 wX10_plan_c 11 rfl
theorem dX10_plan_270 : decode cX10_plan 270 = .ok (.iload 8, 2) := dw_21 wX10_plan_c 8 rfl
theorem dX10_plan_272 : decode cX10_plan 272 = .ok (.if_icmp .le 8, 3) := dw_164 wX10_plan_c 0 8 rfl rfl rfl
theorem dX10_plan_275 : decode cX10_plan 275 = .ok (.iload 11, 2) := dw_21 wX10_plan_c 11 rfl
theorem dX10_plan_277 : decode cX10_plan 277 = .ok (.goto 5, 3) := dw_167 wX10_plan_c 0 5 rfl rfl rfl
theorem dX10_plan_280 : decode cX10_plan 280 = .ok (.iload 8, 2) := dw_21 wX10_plan_c 8 rfl
theorem dX10_plan_282 : decode cX10_plan 282 = .ok (.istore 8, 2) := dw_54 wX10_plan_c 8 rfl
theorem dX10_plan_284 : decode cX10_plan 284 = .ok (.iload 9, 2) := dw_21 wX10_plan_c 9 rfl
theorem dX10_plan_286 : decode cX10_plan 286 = .ok (.iload 11, 2) := dw_21 wX10_plan_c 11 rfl
theorem dX10_plan_288 : decode cX10_plan 288 = .ok (.iadd, 1) := dw_96 wX10_plan_c rfl
theorem dX10_plan_289 : decode cX10_plan 289 = .ok (.istore 9, 2) := dw_54 wX10_plan_c 9 rfl
theorem dX10_plan_291 : decode cX10_plan 291 = .ok (.iinc 10 1, 3) := dw_132 wX10_plan_c 10 1 rfl rfl rfl
theorem dX10_plan_294 : decode cX10_plan 294 = .ok (.goto (-73), 3) := dn_167 wX10_plan_c 255 183 rfl (by decide)
theorem dX10_plan_297 : decode cX10_plan 297 = .ok (.iload 7, 2) := dw_21 wX10_plan_c 7 rfl
theorem dX10_plan_299 : decode cX10_plan 299 = .ok (.iload_n 3, 1) := dw_29 wX10_plan_c rfl
theorem dX10_plan_300 : decode cX10_plan 300 = .ok (.if_icmp .gt 64, 3) := dw_163 wX10_plan_c 0 64 rfl rfl rfl
theorem dX10_plan_303 : decode cX10_plan 303 = .ok (.iload 8, 2) := dw_21 wX10_plan_c 8 rfl
theorem dX10_plan_305 : decode cX10_plan 305 = .ok (.iload 4, 2) := dw_21 wX10_plan_c 4 rfl
theorem dX10_plan_307 : decode cX10_plan 307 = .ok (.if_icmp .lt 17, 3) := dw_161 wX10_plan_c 0 17 rfl rfl rfl
theorem dX10_plan_310 : decode cX10_plan 310 = .ok (.iload 8, 2) := dw_21 wX10_plan_c 8 rfl
theorem dX10_plan_312 : decode cX10_plan 312 = .ok (.iload 4, 2) := dw_21 wX10_plan_c 4 rfl
theorem dX10_plan_314 : decode cX10_plan 314 = .ok (.if_icmp .ne 50, 3) := dw_160 wX10_plan_c 0 50 rfl rfl rfl
theorem dX10_plan_317 : decode cX10_plan 317 = .ok (.iload 9, 2) := dw_21 wX10_plan_c 9 rfl
theorem dX10_plan_319 : decode cX10_plan 319 = .ok (.iload 5, 2) := dw_21 wX10_plan_c 5 rfl
theorem dX10_plan_321 : decode cX10_plan 321 = .ok (.if_icmp .ge 43, 3) := dw_162 wX10_plan_c 0 43 rfl rfl rfl
theorem dX10_plan_324 : decode cX10_plan 324 = .ok (.iload 8, 2) := dw_21 wX10_plan_c 8 rfl
theorem dX10_plan_326 : decode cX10_plan 326 = .ok (.istore 4, 2) := dw_54 wX10_plan_c 4 rfl
theorem dX10_plan_328 : decode cX10_plan 328 = .ok (.iload 9, 2) := dw_21 wX10_plan_c 9 rfl
theorem dX10_plan_330 : decode cX10_plan 330 = .ok (.istore 5, 2) := dw_54 wX10_plan_c 5 rfl
theorem dX10_plan_332 : decode cX10_plan 332 = .ok (.iconst 0, 1) := dw_3 wX10_plan_c rfl
theorem dX10_plan_333 : decode cX10_plan 333 = .ok (.istore 10, 2) := dw_54 wX10_plan_c 10 rfl
theorem dX10_plan_335 : decode cX10_plan 335 = .ok (.iload 10, 2) := dw_21 wX10_plan_c 10 rfl
theorem dX10_plan_337 : decode cX10_plan 337 = .ok (.aload_n 0, 1) := dw_42 wX10_plan_c rfl
theorem dX10_plan_338 : decode cX10_plan 338 = .ok (.getfield 428, 3) := dw_180 wX10_plan_c 1 172 rfl rfl
theorem dX10_plan_341 : decode cX10_plan 341 = .ok (.if_icmp .ge 23, 3) := dw_162 wX10_plan_c 0 23 rfl rfl rfl
theorem dX10_plan_344 : decode cX10_plan 344 = .ok (.aload_n 0, 1) := dw_42 wX10_plan_c rfl
theorem dX10_plan_345 : decode cX10_plan 345 = .ok (.getfield 183, 3) := dw_180 wX10_plan_c 0 183 rfl rfl
theorem dX10_plan_348 : decode cX10_plan 348 = .ok (.iload 10, 2) := dw_21 wX10_plan_c 10 rfl
theorem dX10_plan_350 : decode cX10_plan 350 = .ok (.aload_n 0, 1) := dw_42 wX10_plan_c rfl
theorem dX10_plan_351 : decode cX10_plan 351 = .ok (.getfield 180, 3) := dw_180 wX10_plan_c 0 180 rfl rfl
theorem dX10_plan_354 : decode cX10_plan 354 = .ok (.iload 10, 2) := dw_21 wX10_plan_c 10 rfl
theorem dX10_plan_356 : decode cX10_plan 356 = .ok (.iaload, 1) := dw_46 wX10_plan_c rfl
theorem dX10_plan_357 : decode cX10_plan 357 = .ok (.iastore, 1) := dw_79 wX10_plan_c rfl
theorem dX10_plan_358 : decode cX10_plan 358 = .ok (.iinc 10 1, 3) := dw_132 wX10_plan_c 10 1 rfl rfl rfl
theorem dX10_plan_361 : decode cX10_plan 361 = .ok (.goto (-26), 3) := dn_167 wX10_plan_c 255 230 rfl (by decide)
theorem dX10_plan_364 : decode cX10_plan 364 = .ok (.aload_n 0, 1) := dw_42 wX10_plan_c rfl
theorem dX10_plan_365 : decode cX10_plan 365 = .ok (.getfield 428, 3) := dw_180 wX10_plan_c 1 172 rfl rfl
theorem dX10_plan_368 : decode cX10_plan 368 = .ok (.iconst 1, 1) := dw_4 wX10_plan_c rfl
theorem dX10_plan_369 : decode cX10_plan 369 = .ok (.isub, 1) := dw_100 wX10_plan_c rfl
theorem dX10_plan_370 : decode cX10_plan 370 = .ok (.istore 10, 2) := dw_54 wX10_plan_c 10 rfl
theorem dX10_plan_372 : decode cX10_plan 372 = .ok (.iload 10, 2) := dw_21 wX10_plan_c 10 rfl
theorem dX10_plan_374 : decode cX10_plan 374 = .ok (.ifCond .lt 29, 3) := dw_155 wX10_plan_c 0 29 rfl rfl rfl
theorem dX10_plan_377 : decode cX10_plan 377 = .ok (.aload_n 0, 1) := dw_42 wX10_plan_c rfl
theorem dX10_plan_378 : decode cX10_plan 378 = .ok (.getfield 180, 3) := dw_180 wX10_plan_c 0 180 rfl rfl
theorem dX10_plan_381 : decode cX10_plan 381 = .ok (.iload 10, 2) := dw_21 wX10_plan_c 10 rfl
theorem dX10_plan_383 : decode cX10_plan 383 = .ok (.iaload, 1) := dw_46 wX10_plan_c rfl
theorem dX10_plan_384 : decode cX10_plan 384 = .ok (.bipush 12, 2) := dw_16 wX10_plan_c 12 rfl rfl rfl
theorem dX10_plan_386 : decode cX10_plan 386 = .ok (.if_icmp .ne 17, 3) := dw_160 wX10_plan_c 0 17 rfl rfl rfl
theorem dX10_plan_389 : decode cX10_plan 389 = .ok (.aload_n 0, 1) := dw_42 wX10_plan_c rfl
theorem dX10_plan_390 : decode cX10_plan 390 = .ok (.getfield 180, 3) := dw_180 wX10_plan_c 0 180 rfl rfl
theorem dX10_plan_393 : decode cX10_plan 393 = .ok (.iload 10, 2) := dw_21 wX10_plan_c 10 rfl
theorem dX10_plan_395 : decode cX10_plan 395 = .ok (.iconst 0, 1) := dw_3 wX10_plan_c rfl
theorem dX10_plan_396 : decode cX10_plan 396 = .ok (.iastore, 1) := dw_79 wX10_plan_c rfl
theorem dX10_plan_397 : decode cX10_plan 397 = .ok (.iinc 10 (-1), 3) := dn_132 wX10_plan_c 10 255 rfl (by decide)
theorem dX10_plan_400 : decode cX10_plan 400 = .ok (.goto (-28), 3) := dn_167 wX10_plan_c 255 228 rfl (by decide)
theorem dX10_plan_403 : decode cX10_plan 403 = .ok (.iload 10, 2) := dw_21 wX10_plan_c 10 rfl
theorem dX10_plan_405 : decode cX10_plan 405 = .ok (.ifCond .lt 7, 3) := dw_155 wX10_plan_c 0 7 rfl rfl rfl
theorem dX10_plan_408 : decode cX10_plan 408 = .ok (.iconst 1, 1) := dw_4 wX10_plan_c rfl
theorem dX10_plan_409 : decode cX10_plan 409 = .ok (.goto 4, 3) := dw_167 wX10_plan_c 0 4 rfl rfl rfl
theorem dX10_plan_412 : decode cX10_plan 412 = .ok (.iconst 0, 1) := dw_3 wX10_plan_c rfl
theorem dX10_plan_413 : decode cX10_plan 413 = .ok (.istore 6, 2) := dw_54 wX10_plan_c 6 rfl
theorem dX10_plan_415 : decode cX10_plan 415 = .ok (.iload 6, 2) := dw_21 wX10_plan_c 6 rfl
theorem dX10_plan_417 : decode cX10_plan 417 = .ok (.ifCond .eq 14, 3) := dw_153 wX10_plan_c 0 14 rfl rfl rfl
theorem dX10_plan_420 : decode cX10_plan 420 = .ok (.aload_n 0, 1) := dw_42 wX10_plan_c rfl
theorem dX10_plan_421 : decode cX10_plan 421 = .ok (.getfield 180, 3) := dw_180 wX10_plan_c 0 180 rfl rfl
theorem dX10_plan_424 : decode cX10_plan 424 = .ok (.iload 10, 2) := dw_21 wX10_plan_c 10 rfl
theorem dX10_plan_426 : decode cX10_plan 426 = .ok (.dup2, 1) := dw_92 wX10_plan_c rfl
theorem dX10_plan_427 : decode cX10_plan 427 = .ok (.iaload, 1) := dw_46 wX10_plan_c rfl
theorem dX10_plan_428 : decode cX10_plan 428 = .ok (.iconst 1, 1) := dw_4 wX10_plan_c rfl
theorem dX10_plan_429 : decode cX10_plan 429 = .ok (.iadd, 1) := dw_96 wX10_plan_c rfl
theorem dX10_plan_430 : decode cX10_plan 430 = .ok (.iastore, 1) := dw_79 wX10_plan_c rfl
theorem dX10_plan_431 : decode cX10_plan 431 = .ok (.goto (-227), 3) := dn_167 wX10_plan_c 255 29 rfl (by decide)
theorem dX10_plan_434 : decode cX10_plan 434 = .ok (.iload 4, 2) := dw_21 wX10_plan_c 4 rfl
theorem dX10_plan_436 : decode cX10_plan 436 = .ok (.ldc_w 431, 3) := dw_19 wX10_plan_c 1 175 rfl rfl
theorem dX10_plan_439 : decode cX10_plan 439 = .ok (.if_icmp .ne 6, 3) := dw_160 wX10_plan_c 0 6 rfl rfl rfl
theorem dX10_plan_442 : decode cX10_plan 442 = .ok (.bipush (-2), 2) := dn_16 wX10_plan_c 254 rfl (by decide)
theorem dX10_plan_444 : decode cX10_plan 444 = .ok (.ireturn, 1) := dw_172 wX10_plan_c rfl
theorem dX10_plan_445 : decode cX10_plan 445 = .ok (.aload_n 0, 1) := dw_42 wX10_plan_c rfl
theorem dX10_plan_446 : decode cX10_plan 446 = .ok (.aload_n 0, 1) := dw_42 wX10_plan_c rfl
theorem dX10_plan_447 : decode cX10_plan 447 = .ok (.getfield 428, 3) := dw_180 wX10_plan_c 1 172 rfl rfl
theorem dX10_plan_450 : decode cX10_plan 450 = .ok (.putfield 435, 3) := dw_181 wX10_plan_c 1 179 rfl rfl
theorem dX10_plan_453 : decode cX10_plan 453 = .ok (.iconst 0, 1) := dw_3 wX10_plan_c rfl
theorem dX10_plan_454 : decode cX10_plan 454 = .ok (.istore 7, 2) := dw_54 wX10_plan_c 7 rfl
theorem dX10_plan_456 : decode cX10_plan 456 = .ok (.iload 7, 2) := dw_21 wX10_plan_c 7 rfl
theorem dX10_plan_458 : decode cX10_plan 458 = .ok (.aload_n 0, 1) := dw_42 wX10_plan_c rfl
theorem dX10_plan_459 : decode cX10_plan 459 = .ok (.getfield 428, 3) := dw_180 wX10_plan_c 1 172 rfl rfl
theorem dX10_plan_462 : decode cX10_plan 462 = .ok (.if_icmp .ge 68, 3) := dw_162 wX10_plan_c 0 68 rfl rfl rfl
theorem dX10_plan_465 : decode cX10_plan 465 = .ok (.aload_n 0, 1) := dw_42 wX10_plan_c rfl
theorem dX10_plan_466 : decode cX10_plan 466 = .ok (.getfield 165, 3) := dw_180 wX10_plan_c 0 165 rfl rfl
theorem dX10_plan_469 : decode cX10_plan 469 = .ok (.iload 7, 2) := dw_21 wX10_plan_c 7 rfl
theorem dX10_plan_471 : decode cX10_plan 471 = .ok (.aload_n 0, 1) := dw_42 wX10_plan_c rfl
theorem dX10_plan_472 : decode cX10_plan 472 = .ok (.getfield 171, 3) := dw_180 wX10_plan_c 0 171 rfl rfl
theorem dX10_plan_475 : decode cX10_plan 475 = .ok (.iload 7, 2) := dw_21 wX10_plan_c 7 rfl
theorem dX10_plan_477 : decode cX10_plan 477 = .ok (.iaload, 1) := dw_46 wX10_plan_c rfl
theorem dX10_plan_478 : decode cX10_plan 478 = .ok (.iastore, 1) := dw_79 wX10_plan_c rfl
theorem dX10_plan_479 : decode cX10_plan 479 = .ok (.aload_n 0, 1) := dw_42 wX10_plan_c rfl
theorem dX10_plan_480 : decode cX10_plan 480 = .ok (.getfield 168, 3) := dw_180 wX10_plan_c 0 168 rfl rfl
theorem dX10_plan_483 : decode cX10_plan 483 = .ok (.iload 7, 2) := dw_21 wX10_plan_c 7 rfl
theorem dX10_plan_485 : decode cX10_plan 485 = .ok (.aload_n 0, 1) := dw_42 wX10_plan_c rfl
theorem dX10_plan_486 : decode cX10_plan 486 = .ok (.getfield 177, 3) := dw_180 wX10_plan_c 0 177 rfl rfl
theorem dX10_plan_489 : decode cX10_plan 489 = .ok (.iload 7, 2) := dw_21 wX10_plan_c 7 rfl
theorem dX10_plan_491 : decode cX10_plan 491 = .ok (.iaload, 1) := dw_46 wX10_plan_c rfl
theorem dX10_plan_492 : decode cX10_plan 492 = .ok (.aload_n 0, 1) := dw_42 wX10_plan_c rfl
theorem dX10_plan_493 : decode cX10_plan 493 = .ok (.getfield 183, 3) := dw_180 wX10_plan_c 0 183 rfl rfl
theorem dX10_plan_496 : decode cX10_plan 496 = .ok (.iload 7, 2) := dw_21 wX10_plan_c 7 rfl
theorem dX10_plan_498 : decode cX10_plan 498 = .ok (.iaload, 1) := dw_46 wX10_plan_c rfl
theorem dX10_plan_499 : decode cX10_plan 499 = .ok (.iload_n 2, 1) := dw_28 wX10_plan_c rfl
theorem dX10_plan_500 : decode cX10_plan 500 = .ok (.imul, 1) := dw_104 wX10_plan_c rfl
theorem dX10_plan_501 : decode cX10_plan 501 = .ok (.iadd, 1) := dw_96 wX10_plan_c rfl
theorem dX10_plan_502 : decode cX10_plan 502 = .ok (.iastore, 1) := dw_79 wX10_plan_c rfl
theorem dX10_plan_503 : decode cX10_plan 503 = .ok (.aload_n 0, 1) := dw_42 wX10_plan_c rfl
theorem dX10_plan_504 : decode cX10_plan 504 = .ok (.getfield 186, 3) := dw_180 wX10_plan_c 0 186 rfl rfl
theorem dX10_plan_507 : decode cX10_plan 507 = .ok (.iload 7, 2) := dw_21 wX10_plan_c 7 rfl
theorem dX10_plan_509 : decode cX10_plan 509 = .ok (.aload_n 0, 1) := dw_42 wX10_plan_c rfl
theorem dX10_plan_510 : decode cX10_plan 510 = .ok (.iload 7, 2) := dw_21 wX10_plan_c 7 rfl
theorem dX10_plan_512 : decode cX10_plan 512 = .ok (.aload_n 0, 1) := dw_42 wX10_plan_c rfl
theorem dX10_plan_513 : decode cX10_plan 513 = .ok (.getfield 183, 3) := dw_180 wX10_plan_c 0 183 rfl rfl
theorem dX10_plan_516 : decode cX10_plan 516 = .ok (.iload 7, 2) := dw_21 wX10_plan_c 7 rfl
theorem dX10_plan_518 : decode cX10_plan 518 = .ok (.iaload, 1) := dw_46 wX10_plan_c rfl
theorem dX10_plan_519 : decode cX10_plan 519 = .ok (.iload_n 2, 1) := dw_28 wX10_plan_c rfl
theorem dX10_plan_520 : decode cX10_plan 520 = .ok (.invokevirtual 432, 3) := dw_182 wX10_plan_c 1 176 rfl rfl
theorem dX10_plan_523 : decode cX10_plan 523 = .ok (.iastore, 1) := dw_79 wX10_plan_c rfl
theorem dX10_plan_524 : decode cX10_plan 524 = .ok (.iinc 7 1, 3) := dw_132 wX10_plan_c 7 1 rfl rfl rfl
theorem dX10_plan_527 : decode cX10_plan 527 = .ok (.goto (-71), 3) := dn_167 wX10_plan_c 255 185 rfl (by decide)
theorem dX10_plan_530 : decode cX10_plan 530 = .ok (.iload 4, 2) := dw_21 wX10_plan_c 4 rfl
theorem dX10_plan_532 : decode cX10_plan 532 = .ok (.ireturn, 1) := dw_172 wX10_plan_c rfl
def wNX10_order : Nat := 13513278903888547982771721520741113581370481956095540754622856484791002486467826908604566179474507294386456113627865779913623497160404233631455945296214808001384337339881716223766677468524664502472020943654583656843051290876485609186466450965351520062099716322675244139140037645488139978219687315817782931480267234839704995925253378317123266134534507903600386211502534467833037203465298212573505379952535407815729966947403411947150112581299290953741846165086683855167412216279376427250837705598888264765233636223373914808607686555680402002749310744690826026
theorem wX10_order_c : hz_cd cX10_order wNX10_order 231 := ⟨by decide +kernel, by decide +kernel⟩
theorem dX10_order_0 : decode cX10_order 0 = .ok (.aload_n 0, 1) := dw_42 wX10_order_c rfl
theorem dX10_order_1 : decode cX10_order 1 = .ok (.iload_n 1, 1) := dw_27 wX10_order_c rfl
theorem dX10_order_2 : decode cX10_order 2 = .ok (.invokevirtual 370, 3) := dw_182 wX10_order_c 1 114 rfl rfl
theorem dX10_order_5 : decode cX10_order 5 = .ok (.ifCond .eq 48, 3) := dw_153 wX10_order_c 0 48 rfl rfl rfl
theorem dX10_order_8 : decode cX10_order 8 = .ok (.aload_n 0, 1) := dw_42 wX10_order_c rfl
theorem dX10_order_9 : decode cX10_order 9 = .ok (.getfield 123, 3) := dw_180 wX10_order_c 0 123 rfl rfl
theorem dX10_order_12 : decode cX10_order 12 = .ok (.iload_n 1, 1) := dw_27 wX10_order_c rfl
theorem dX10_order_13 : decode cX10_order 13 = .ok (.iaload, 1) := dw_46 wX10_order_c rfl
theorem dX10_order_14 : decode cX10_order 14 = .ok (.iconst 5, 1) := dw_8 wX10_order_c rfl
theorem dX10_order_15 : decode cX10_order 15 = .ok (.if_icmp .ne 38, 3) := dw_160 wX10_order_c 0 38 rfl rfl rfl
theorem dX10_order_18 : decode cX10_order 18 = .ok (.aload_n 0, 1) := dw_42 wX10_order_c rfl
theorem dX10_order_19 : decode cX10_order 19 = .ok (.getfield 114, 3) := dw_180 wX10_order_c 0 114 rfl rfl
theorem dX10_order_22 : decode cX10_order 22 = .ok (.iload_n 1, 1) := dw_27 wX10_order_c rfl
theorem dX10_order_23 : decode cX10_order 23 = .ok (.iaload, 1) := dw_46 wX10_order_c rfl
theorem dX10_order_24 : decode cX10_order 24 = .ok (.iconst (-1), 1) := dw_2 wX10_order_c rfl
theorem dX10_order_25 : decode cX10_order 25 = .ok (.if_icmp .ne 28, 3) := dw_160 wX10_order_c 0 28 rfl rfl rfl
theorem dX10_order_28 : decode cX10_order 28 = .ok (.aload_n 0, 1) := dw_42 wX10_order_c rfl
theorem dX10_order_29 : decode cX10_order 29 = .ok (.getfield 56, 3) := dw_180 wX10_order_c 0 56 rfl rfl
theorem dX10_order_32 : decode cX10_order 32 = .ok (.aload_n 0, 1) := dw_42 wX10_order_c rfl
theorem dX10_order_33 : decode cX10_order 33 = .ok (.getfield 84, 3) := dw_180 wX10_order_c 0 84 rfl rfl
theorem dX10_order_36 : decode cX10_order 36 = .ok (.iload_n 1, 1) := dw_27 wX10_order_c rfl
theorem dX10_order_37 : decode cX10_order 37 = .ok (.iaload, 1) := dw_46 wX10_order_c rfl
theorem dX10_order_38 : decode cX10_order 38 = .ok (.baload, 1) := dw_51 wX10_order_c rfl
theorem dX10_order_39 : decode cX10_order 39 = .ok (.ifCond .ne 14, 3) := dw_154 wX10_order_c 0 14 rfl rfl rfl
theorem dX10_order_42 : decode cX10_order 42 = .ok (.iload_n 2, 1) := dw_28 wX10_order_c rfl
theorem dX10_order_43 : decode cX10_order 43 = .ok (.iconst 1, 1) := dw_4 wX10_order_c rfl
theorem dX10_order_44 : decode cX10_order 44 = .ok (.sipush 9999, 3) := dw_17 wX10_order_c 39 15 rfl rfl rfl
theorem dX10_order_47 : decode cX10_order 47 = .ok (.invokestatic 228, 3) := dw_184 wX10_order_c 0 228 rfl rfl
theorem dX10_order_50 : decode cX10_order 50 = .ok (.ifCond .ne 5, 3) := dw_154 wX10_order_c 0 5 rfl rfl rfl
theorem dX10_order_53 : decode cX10_order 53 = .ok (.iconst (-1), 1) := dw_2 wX10_order_c rfl
theorem dX10_order_54 : decode cX10_order 54 = .ok (.ireturn, 1) := dw_172 wX10_order_c rfl
theorem dX10_order_55 : decode cX10_order 55 = .ok (.aload_n 0, 1) := dw_42 wX10_order_c rfl
theorem dX10_order_56 : decode cX10_order 56 = .ok (.getfield 102, 3) := dw_180 wX10_order_c 0 102 rfl rfl
theorem dX10_order_59 : decode cX10_order 59 = .ok (.iload_n 1, 1) := dw_27 wX10_order_c rfl
theorem dX10_order_60 : decode cX10_order 60 = .ok (.iaload, 1) := dw_46 wX10_order_c rfl
theorem dX10_order_61 : decode cX10_order 61 = .ok (.istore_n 3, 1) := dw_62 wX10_order_c rfl
theorem dX10_order_62 : decode cX10_order 62 = .ok (.aload_n 0, 1) := dw_42 wX10_order_c rfl
theorem dX10_order_63 : decode cX10_order 63 = .ok (.getfield 87, 3) := dw_180 wX10_order_c 0 87 rfl rfl
theorem dX10_order_66 : decode cX10_order 66 = .ok (.iload_n 1, 1) := dw_27 wX10_order_c rfl
theorem dX10_order_67 : decode cX10_order 67 = .ok (.iaload, 1) := dw_46 wX10_order_c rfl
theorem dX10_order_68 : decode cX10_order 68 = .ok (.aload_n 0, 1) := dw_42 wX10_order_c rfl
theorem dX10_order_69 : decode cX10_order 69 = .ok (.getfield 105, 3) := dw_180 wX10_order_c 0 105 rfl rfl
theorem dX10_order_72 : decode cX10_order 72 = .ok (.iload_n 1, 1) := dw_27 wX10_order_c rfl
theorem dX10_order_73 : decode cX10_order 73 = .ok (.iaload, 1) := dw_46 wX10_order_c rfl
theorem dX10_order_74 : decode cX10_order 74 = .ok (.aload_n 0, 1) := dw_42 wX10_order_c rfl
theorem dX10_order_75 : decode cX10_order 75 = .ok (.iload_n 3, 1) := dw_29 wX10_order_c rfl
theorem dX10_order_76 : decode cX10_order 76 = .ok (.bipush 9, 2) := dw_16 wX10_order_c 9 rfl rfl rfl
theorem dX10_order_78 : decode cX10_order 78 = .ok (.invokevirtual 333, 3) := dw_182 wX10_order_c 1 77 rfl rfl
theorem dX10_order_81 : decode cX10_order 81 = .ok (.imul, 1) := dw_104 wX10_order_c rfl
theorem dX10_order_82 : decode cX10_order 82 = .ok (.iadd, 1) := dw_96 wX10_order_c rfl
theorem dX10_order_83 : decode cX10_order 83 = .ok (.aload_n 0, 1) := dw_42 wX10_order_c rfl
theorem dX10_order_84 : decode cX10_order 84 = .ok (.iload_n 3, 1) := dw_29 wX10_order_c rfl
theorem dX10_order_85 : decode cX10_order 85 = .ok (.bipush 10, 2) := dw_16 wX10_order_c 10 rfl rfl rfl
theorem dX10_order_87 : decode cX10_order 87 = .ok (.invokevirtual 333, 3) := dw_182 wX10_order_c 1 77 rfl rfl
theorem dX10_order_90 : decode cX10_order 90 = .ok (.iadd, 1) := dw_96 wX10_order_c rfl
theorem dX10_order_91 : decode cX10_order 91 = .ok (.aload_n 0, 1) := dw_42 wX10_order_c rfl
theorem dX10_order_92 : decode cX10_order 92 = .ok (.iload_n 3, 1) := dw_29 wX10_order_c rfl
theorem dX10_order_93 : decode cX10_order 93 = .ok (.bipush 11, 2) := dw_16 wX10_order_c 11 rfl rfl rfl
theorem dX10_order_95 : decode cX10_order 95 = .ok (.invokevirtual 333, 3) := dw_182 wX10_order_c 1 77 rfl rfl
theorem dX10_order_98 : decode cX10_order 98 = .ok (.iadd, 1) := dw_96 wX10_order_c rfl
theorem dX10_order_99 : decode cX10_order 99 = .ok (.istore 4, 2) := dw_54 wX10_order_c 4 rfl
theorem dX10_order_101 : decode cX10_order 101 = .ok (.iload_n 2, 1) := dw_28 wX10_order_c rfl
theorem dX10_order_102 : decode cX10_order 102 = .ok (.aload_n 0, 1) := dw_42 wX10_order_c rfl
theorem dX10_order_103 : decode cX10_order 103 = .ok (.iload_n 3, 1) := dw_29 wX10_order_c rfl
theorem dX10_order_104 : decode cX10_order 104 = .ok (.iconst 2, 1) := dw_5 wX10_order_c rfl
theorem dX10_order_105 : decode cX10_order 105 = .ok (.invokevirtual 333, 3) := dw_182 wX10_order_c 1 77 rfl rfl
theorem dX10_order_108 : decode cX10_order 108 = .ok (.if_icmp .ge 12, 3) := dw_162 wX10_order_c 0 12 rfl rfl rfl
theorem dX10_order_111 : decode cX10_order 111 = .ok (.iload_n 2, 1) := dw_28 wX10_order_c rfl
theorem dX10_order_112 : decode cX10_order 112 = .ok (.iload 4, 2) := dw_21 wX10_order_c 4 rfl
theorem dX10_order_114 : decode cX10_order 114 = .ok (.if_icmp .ge 6, 3) := dw_162 wX10_order_c 0 6 rfl rfl rfl
theorem dX10_order_117 : decode cX10_order 117 = .ok (.bipush (-2), 2) := dn_16 wX10_order_c 254 rfl (by decide)
theorem dX10_order_119 : decode cX10_order 119 = .ok (.ireturn, 1) := dw_172 wX10_order_c rfl
theorem dX10_order_120 : decode cX10_order 120 = .ok (.iconst 0, 1) := dw_3 wX10_order_c rfl
theorem dX10_order_121 : decode cX10_order 121 = .ok (.istore 5, 2) := dw_54 wX10_order_c 5 rfl
theorem dX10_order_123 : decode cX10_order 123 = .ok (.iconst 0, 1) := dw_3 wX10_order_c rfl
theorem dX10_order_124 : decode cX10_order 124 = .ok (.istore 6, 2) := dw_54 wX10_order_c 6 rfl
theorem dX10_order_126 : decode cX10_order 126 = .ok (.iload 6, 2) := dw_21 wX10_order_c 6 rfl
theorem dX10_order_128 : decode cX10_order 128 = .ok (.aload_n 0, 1) := dw_42 wX10_order_c rfl
theorem dX10_order_129 : decode cX10_order 129 = .ok (.getfield 367, 3) := dw_180 wX10_order_c 1 111 rfl rfl
theorem dX10_order_132 : decode cX10_order 132 = .ok (.if_icmp .ge 50, 3) := dw_162 wX10_order_c 0 50 rfl rfl rfl
theorem dX10_order_135 : decode cX10_order 135 = .ok (.iload 5, 2) := dw_21 wX10_order_c 5 rfl
theorem dX10_order_137 : decode cX10_order 137 = .ok (.aload_n 0, 1) := dw_42 wX10_order_c rfl
theorem dX10_order_138 : decode cX10_order 138 = .ok (.getfield 84, 3) := dw_180 wX10_order_c 0 84 rfl rfl
theorem dX10_order_141 : decode cX10_order 141 = .ok (.iload 6, 2) := dw_21 wX10_order_c 6 rfl
theorem dX10_order_143 : decode cX10_order 143 = .ok (.iaload, 1) := dw_46 wX10_order_c rfl
theorem dX10_order_144 : decode cX10_order 144 = .ok (.aload_n 0, 1) := dw_42 wX10_order_c rfl
theorem dX10_order_145 : decode cX10_order 145 = .ok (.getfield 84, 3) := dw_180 wX10_order_c 0 84 rfl rfl
theorem dX10_order_148 : decode cX10_order 148 = .ok (.iload_n 1, 1) := dw_27 wX10_order_c rfl
theorem dX10_order_149 : decode cX10_order 149 = .ok (.iaload, 1) := dw_46 wX10_order_c rfl
theorem dX10_order_150 : decode cX10_order 150 = .ok (.if_icmp .ne 22, 3) := dw_160 wX10_order_c 0 22 rfl rfl rfl
theorem dX10_order_153 : decode cX10_order 153 = .ok (.aload_n 0, 1) := dw_42 wX10_order_c rfl
theorem dX10_order_154 : decode cX10_order 154 = .ok (.iload 6, 2) := dw_21 wX10_order_c 6 rfl
theorem dX10_order_156 : decode cX10_order 156 = .ok (.invokevirtual 419, 3) := dw_182 wX10_order_c 1 163 rfl rfl
theorem dX10_order_159 : decode cX10_order 159 = .ok (.ifCond .eq 13, 3) := dw_153 wX10_order_c 0 13 rfl rfl rfl
theorem dX10_order_162 : decode cX10_order 162 = .ok (.aload_n 0, 1) := dw_42 wX10_order_c rfl
theorem dX10_order_163 : decode cX10_order 163 = .ok (.getfield 132, 3) := dw_180 wX10_order_c 0 132 rfl rfl
theorem dX10_order_166 : decode cX10_order 166 = .ok (.iload 6, 2) := dw_21 wX10_order_c 6 rfl
theorem dX10_order_168 : decode cX10_order 168 = .ok (.iaload, 1) := dw_46 wX10_order_c rfl
theorem dX10_order_169 : decode cX10_order 169 = .ok (.goto 4, 3) := dw_167 wX10_order_c 0 4 rfl rfl rfl
theorem dX10_order_172 : decode cX10_order 172 = .ok (.iconst 0, 1) := dw_3 wX10_order_c rfl
theorem dX10_order_173 : decode cX10_order 173 = .ok (.iadd, 1) := dw_96 wX10_order_c rfl
theorem dX10_order_174 : decode cX10_order 174 = .ok (.istore 5, 2) := dw_54 wX10_order_c 5 rfl
theorem dX10_order_176 : decode cX10_order 176 = .ok (.iinc 6 1, 3) := dw_132 wX10_order_c 6 1 rfl rfl rfl
theorem dX10_order_179 : decode cX10_order 179 = .ok (.goto (-53), 3) := dn_167 wX10_order_c 255 203 rfl (by decide)
theorem dX10_order_182 : decode cX10_order 182 = .ok (.iload_n 2, 1) := dw_28 wX10_order_c rfl
theorem dX10_order_183 : decode cX10_order 183 = .ok (.iload 5, 2) := dw_21 wX10_order_c 5 rfl
theorem dX10_order_185 : decode cX10_order 185 = .ok (.iadd, 1) := dw_96 wX10_order_c rfl
theorem dX10_order_186 : decode cX10_order 186 = .ok (.aload_n 0, 1) := dw_42 wX10_order_c rfl
theorem dX10_order_187 : decode cX10_order 187 = .ok (.aload_n 0, 1) := dw_42 wX10_order_c rfl
theorem dX10_order_188 : decode cX10_order 188 = .ok (.getfield 84, 3) := dw_180 wX10_order_c 0 84 rfl rfl
theorem dX10_order_191 : decode cX10_order 191 = .ok (.iload_n 1, 1) := dw_27 wX10_order_c rfl
theorem dX10_order_192 : decode cX10_order 192 = .ok (.iaload, 1) := dw_46 wX10_order_c rfl
theorem dX10_order_193 : decode cX10_order 193 = .ok (.iload_n 3, 1) := dw_29 wX10_order_c rfl
theorem dX10_order_194 : decode cX10_order 194 = .ok (.invokevirtual 422, 3) := dw_182 wX10_order_c 1 166 rfl rfl
theorem dX10_order_197 : decode cX10_order 197 = .ok (.if_icmp .le 6, 3) := dw_164 wX10_order_c 0 6 rfl rfl rfl
theorem dX10_order_200 : decode cX10_order 200 = .ok (.bipush (-3), 2) := dn_16 wX10_order_c 253 rfl (by decide)
theorem dX10_order_202 : decode cX10_order 202 = .ok (.ireturn, 1) := dw_172 wX10_order_c rfl
theorem dX10_order_203 : decode cX10_order 203 = .ok (.aload_n 0, 1) := dw_42 wX10_order_c rfl
theorem dX10_order_204 : decode cX10_order 204 = .ok (.getfield 114, 3) := dw_180 wX10_order_c 0 114 rfl rfl
theorem dX10_order_207 : decode cX10_order 207 = .ok (.iload_n 1, 1) := dw_27 wX10_order_c rfl
theorem dX10_order_208 : decode cX10_order 208 = .ok (.aload_n 0, 1) := dw_42 wX10_order_c rfl
theorem dX10_order_209 : decode cX10_order 209 = .ok (.getfield 232, 3) := dw_180 wX10_order_c 0 232 rfl rfl
theorem dX10_order_212 : decode cX10_order 212 = .ok (.iastore, 1) := dw_79 wX10_order_c rfl
theorem dX10_order_213 : decode cX10_order 213 = .ok (.aload_n 0, 1) := dw_42 wX10_order_c rfl
theorem dX10_order_214 : decode cX10_order 214 = .ok (.getfield 132, 3) := dw_180 wX10_order_c 0 132 rfl rfl
theorem dX10_order_217 : decode cX10_order 217 = .ok (.iload_n 1, 1) := dw_27 wX10_order_c rfl
theorem dX10_order_218 : decode cX10_order 218 = .ok (.iload_n 2, 1) := dw_28 wX10_order_c rfl
theorem dX10_order_219 : decode cX10_order 219 = .ok (.iastore, 1) := dw_79 wX10_order_c rfl
theorem dX10_order_220 : decode cX10_order 220 = .ok (.aload_n 0, 1) := dw_42 wX10_order_c rfl
theorem dX10_order_221 : decode cX10_order 221 = .ok (.getfield 135, 3) := dw_180 wX10_order_c 0 135 rfl rfl
theorem dX10_order_224 : decode cX10_order 224 = .ok (.iload_n 1, 1) := dw_27 wX10_order_c rfl
theorem dX10_order_225 : decode cX10_order 225 = .ok (.iload 4, 2) := dw_21 wX10_order_c 4 rfl
theorem dX10_order_227 : decode cX10_order 227 = .ok (.iastore, 1) := dw_79 wX10_order_c rfl
theorem dX10_order_228 : decode cX10_order 228 = .ok (.iload 4, 2) := dw_21 wX10_order_c 4 rfl
theorem dX10_order_230 : decode cX10_order 230 = .ok (.ireturn, 1) := dw_172 wX10_order_c rfl