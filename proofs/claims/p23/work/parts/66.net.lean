def wNX10_net : Nat := 29891705430739415871508449371046276516746933493572174920102819127144356720512031768996815193941284283118309968712621053793678665535158132915269397437783923093060183275351898417802194549840895990897777907942833816217501855593726438671292652192330446871709703297813096473115735611888516486093650034607306843398526477430234735067040186144031213459508570042610923203332943152171947785869432833989254434142349350070333565610503438147866724475642096912471808283553679985071122241270645802
theorem wX10_net_c : hz_cd cX10_net wNX10_net 200 := ⟨by decide +kernel, by decide +kernel⟩
theorem dX10_net_0 : decode cX10_net 0 = .ok (.aload_n 0, 1) := dw_42 wX10_net_c rfl
theorem dX10_net_1 : decode cX10_net 1 = .ok (.iconst 1, 1) := dw_4 wX10_net_c rfl
theorem dX10_net_2 : decode cX10_net 2 = .ok (.putfield 451, 3) := dw_181 wX10_net_c 1 195 rfl rfl
theorem dX10_net_5 : decode cX10_net 5 = .ok (.aload_n 0, 1) := dw_42 wX10_net_c rfl
theorem dX10_net_6 : decode cX10_net 6 = .ok (.iconst 0, 1) := dw_3 wX10_net_c rfl
theorem dX10_net_7 : decode cX10_net 7 = .ok (.putfield 455, 3) := dw_181 wX10_net_c 1 199 rfl rfl
theorem dX10_net_10 : decode cX10_net 10 = .ok (.iconst 0, 1) := dw_3 wX10_net_c rfl
theorem dX10_net_11 : decode cX10_net 11 = .ok (.istore_n 1, 1) := dw_60 wX10_net_c rfl
theorem dX10_net_12 : decode cX10_net 12 = .ok (.iconst 1, 1) := dw_4 wX10_net_c rfl
theorem dX10_net_13 : decode cX10_net 13 = .ok (.istore_n 2, 1) := dw_61 wX10_net_c rfl
theorem dX10_net_14 : decode cX10_net 14 = .ok (.iload_n 2, 1) := dw_28 wX10_net_c rfl
theorem dX10_net_15 : decode cX10_net 15 = .ok (.ifCond .eq 183, 3) := dw_153 wX10_net_c 0 183 rfl rfl rfl
theorem dX10_net_18 : decode cX10_net 18 = .ok (.aload_n 0, 1) := dw_42 wX10_net_c rfl
theorem dX10_net_19 : decode cX10_net 19 = .ok (.invokevirtual 458, 3) := dw_182 wX10_net_c 1 202 rfl rfl
theorem dX10_net_22 : decode cX10_net 22 = .ok (.aload_n 0, 1) := dw_42 wX10_net_c rfl
theorem dX10_net_23 : decode cX10_net 23 = .ok (.invokevirtual 461, 3) := dw_182 wX10_net_c 1 205 rfl rfl
theorem dX10_net_26 : decode cX10_net 26 = .ok (.iconst 0, 1) := dw_3 wX10_net_c rfl
theorem dX10_net_27 : decode cX10_net 27 = .ok (.istore_n 3, 1) := dw_62 wX10_net_c rfl
theorem dX10_net_28 : decode cX10_net 28 = .ok (.iconst 0, 1) := dw_3 wX10_net_c rfl
theorem dX10_net_29 : decode cX10_net 29 = .ok (.istore 4, 2) := dw_54 wX10_net_c 4 rfl
theorem dX10_net_31 : decode cX10_net 31 = .ok (.iload 4, 2) := dw_21 wX10_net_c 4 rfl
theorem dX10_net_33 : decode cX10_net 33 = .ok (.aload_n 0, 1) := dw_42 wX10_net_c rfl
theorem dX10_net_34 : decode cX10_net 34 = .ok (.getfield 441, 3) := dw_180 wX10_net_c 1 185 rfl rfl
theorem dX10_net_37 : decode cX10_net 37 = .ok (.if_icmp .ge 42, 3) := dw_162 wX10_net_c 0 42 rfl rfl rfl
theorem dX10_net_40 : decode cX10_net 40 = .ok (.iload_n 3, 1) := dw_29 wX10_net_c rfl
theorem dX10_net_41 : decode cX10_net 41 = .ok (.aload_n 0, 1) := dw_42 wX10_net_c rfl
theorem dX10_net_42 : decode cX10_net 42 = .ok (.aload_n 0, 1) := dw_42 wX10_net_c rfl
theorem dX10_net_43 : decode cX10_net 43 = .ok (.getfield 195, 3) := dw_180 wX10_net_c 0 195 rfl rfl
theorem dX10_net_46 : decode cX10_net 46 = .ok (.iload 4, 2) := dw_21 wX10_net_c 4 rfl
theorem dX10_net_48 : decode cX10_net 48 = .ok (.iaload, 1) := dw_46 wX10_net_c rfl
theorem dX10_net_49 : decode cX10_net 49 = .ok (.aload_n 0, 1) := dw_42 wX10_net_c rfl
theorem dX10_net_50 : decode cX10_net 50 = .ok (.getfield 195, 3) := dw_180 wX10_net_c 0 195 rfl rfl
theorem dX10_net_53 : decode cX10_net 53 = .ok (.iload 4, 2) := dw_21 wX10_net_c 4 rfl
theorem dX10_net_55 : decode cX10_net 55 = .ok (.iconst 1, 1) := dw_4 wX10_net_c rfl
theorem dX10_net_56 : decode cX10_net 56 = .ok (.iadd, 1) := dw_96 wX10_net_c rfl
theorem dX10_net_57 : decode cX10_net 57 = .ok (.aload_n 0, 1) := dw_42 wX10_net_c rfl
theorem dX10_net_58 : decode cX10_net 58 = .ok (.getfield 441, 3) := dw_180 wX10_net_c 1 185 rfl rfl
theorem dX10_net_61 : decode cX10_net 61 = .ok (.irem, 1) := dw_112 wX10_net_c rfl
theorem dX10_net_62 : decode cX10_net 62 = .ok (.iaload, 1) := dw_46 wX10_net_c rfl
theorem dX10_net_63 : decode cX10_net 63 = .ok (.aload_n 0, 1) := dw_42 wX10_net_c rfl
theorem dX10_net_64 : decode cX10_net 64 = .ok (.getfield 438, 3) := dw_180 wX10_net_c 1 182 rfl rfl
theorem dX10_net_67 : decode cX10_net 67 = .ok (.iconst 0, 1) := dw_3 wX10_net_c rfl
theorem dX10_net_68 : decode cX10_net 68 = .ok (.invokevirtual 464, 3) := dw_182 wX10_net_c 1 208 rfl rfl
theorem dX10_net_71 : decode cX10_net 71 = .ok (.iadd, 1) := dw_96 wX10_net_c rfl
theorem dX10_net_72 : decode cX10_net 72 = .ok (.istore_n 3, 1) := dw_62 wX10_net_c rfl
theorem dX10_net_73 : decode cX10_net 73 = .ok (.iinc 4 1, 3) := dw_132 wX10_net_c 4 1 rfl rfl rfl
theorem dX10_net_76 : decode cX10_net 76 = .ok (.goto (-45), 3) := dn_167 wX10_net_c 255 211 rfl (by decide)
theorem dX10_net_79 : decode cX10_net 79 = .ok (.aload_n 0, 1) := dw_42 wX10_net_c rfl
theorem dX10_net_80 : decode cX10_net 80 = .ok (.getfield 441, 3) := dw_180 wX10_net_c 1 185 rfl rfl
theorem dX10_net_83 : decode cX10_net 83 = .ok (.ifCond .le 19, 3) := dw_158 wX10_net_c 0 19 rfl rfl rfl
theorem dX10_net_86 : decode cX10_net 86 = .ok (.aload_n 0, 1) := dw_42 wX10_net_c rfl
theorem dX10_net_87 : decode cX10_net 87 = .ok (.getfield 413, 3) := dw_180 wX10_net_c 1 157 rfl rfl
theorem dX10_net_90 : decode cX10_net 90 = .ok (.iload_n 3, 1) := dw_29 wX10_net_c rfl
theorem dX10_net_91 : decode cX10_net 91 = .ok (.iadd, 1) := dw_96 wX10_net_c rfl
theorem dX10_net_92 : decode cX10_net 92 = .ok (.sipush 600, 3) := dw_17 wX10_net_c 2 88 rfl rfl rfl
theorem dX10_net_95 : decode cX10_net 95 = .ok (.if_icmp .gt 7, 3) := dw_163 wX10_net_c 0 7 rfl rfl rfl
theorem dX10_net_98 : decode cX10_net 98 = .ok (.iconst 1, 1) := dw_4 wX10_net_c rfl
theorem dX10_net_99 : decode cX10_net 99 = .ok (.goto 4, 3) := dw_167 wX10_net_c 0 4 rfl rfl rfl
theorem dX10_net_102 : decode cX10_net 102 = .ok (.iconst 0, 1) := dw_3 wX10_net_c rfl
theorem dX10_net_103 : decode cX10_net 103 = .ok (.istore_n 2, 1) := dw_61 wX10_net_c rfl
theorem dX10_net_104 : decode cX10_net 104 = .ok (.iload_n 2, 1) := dw_28 wX10_net_c rfl
theorem dX10_net_105 : decode cX10_net 105 = .ok (.ifCond .ne 6, 3) := dw_154 wX10_net_c 0 6 rfl rfl rfl
theorem dX10_net_108 : decode cX10_net 108 = .ok (.goto 90, 3) := dw_167 wX10_net_c 0 90 rfl rfl rfl
theorem dX10_net_111 : decode cX10_net 111 = .ok (.iconst 0, 1) := dw_3 wX10_net_c rfl
theorem dX10_net_112 : decode cX10_net 112 = .ok (.istore 4, 2) := dw_54 wX10_net_c 4 rfl
theorem dX10_net_114 : decode cX10_net 114 = .ok (.iload 4, 2) := dw_21 wX10_net_c 4 rfl
theorem dX10_net_116 : decode cX10_net 116 = .ok (.aload_n 0, 1) := dw_42 wX10_net_c rfl
theorem dX10_net_117 : decode cX10_net 117 = .ok (.getfield 441, 3) := dw_180 wX10_net_c 1 185 rfl rfl
theorem dX10_net_120 : decode cX10_net 120 = .ok (.if_icmp .ge 40, 3) := dw_162 wX10_net_c 0 40 rfl rfl rfl
theorem dX10_net_123 : decode cX10_net 123 = .ok (.aload_n 0, 1) := dw_42 wX10_net_c rfl
theorem dX10_net_124 : decode cX10_net 124 = .ok (.aload_n 0, 1) := dw_42 wX10_net_c rfl
theorem dX10_net_125 : decode cX10_net 125 = .ok (.getfield 195, 3) := dw_180 wX10_net_c 0 195 rfl rfl
theorem dX10_net_128 : decode cX10_net 128 = .ok (.iload 4, 2) := dw_21 wX10_net_c 4 rfl
theorem dX10_net_130 : decode cX10_net 130 = .ok (.iaload, 1) := dw_46 wX10_net_c rfl
theorem dX10_net_131 : decode cX10_net 131 = .ok (.aload_n 0, 1) := dw_42 wX10_net_c rfl
theorem dX10_net_132 : decode cX10_net 132 = .ok (.getfield 195, 3) := dw_180 wX10_net_c 0 195 rfl rfl
theorem dX10_net_135 : decode cX10_net 135 = .ok (.iload 4, 2) := dw_21 wX10_net_c 4 rfl
theorem dX10_net_137 : decode cX10_net 137 = .ok (.iconst 1, 1) := dw_4 wX10_net_c rfl
theorem dX10_net_138 : decode cX10_net 138 = .ok (.iadd, 1) := dw_96 wX10_net_c rfl
theorem dX10_net_139 : decode cX10_net 139 = .ok (.aload_n 0, 1) := dw_42 wX10_net_c rfl
theorem dX10_net_140 : decode cX10_net 140 = .ok (.getfield 441, 3) := dw_180 wX10_net_c 1 185 rfl rfl
theorem dX10_net_143 : decode cX10_net 143 = .ok (.irem, 1) := dw_112 wX10_net_c rfl
theorem dX10_net_144 : decode cX10_net 144 = .ok (.iaload, 1) := dw_46 wX10_net_c rfl
theorem dX10_net_145 : decode cX10_net 145 = .ok (.aload_n 0, 1) := dw_42 wX10_net_c rfl
theorem dX10_net_146 : decode cX10_net 146 = .ok (.getfield 438, 3) := dw_180 wX10_net_c 1 182 rfl rfl
theorem dX10_net_149 : decode cX10_net 149 = .ok (.iconst 1, 1) := dw_4 wX10_net_c rfl
theorem dX10_net_150 : decode cX10_net 150 = .ok (.invokevirtual 464, 3) := dw_182 wX10_net_c 1 208 rfl rfl
theorem dX10_net_153 : decode cX10_net 153 = .ok (.pop, 1) := dw_87 wX10_net_c rfl
theorem dX10_net_154 : decode cX10_net 154 = .ok (.iinc 4 1, 3) := dw_132 wX10_net_c 4 1 rfl rfl rfl
theorem dX10_net_157 : decode cX10_net 157 = .ok (.goto (-43), 3) := dn_167 wX10_net_c 255 213 rfl (by decide)
theorem dX10_net_160 : decode cX10_net 160 = .ok (.aload_n 0, 1) := dw_42 wX10_net_c rfl
theorem dX10_net_161 : decode cX10_net 161 = .ok (.getfield 192, 3) := dw_180 wX10_net_c 0 192 rfl rfl
theorem dX10_net_164 : decode cX10_net 164 = .ok (.aload_n 0, 1) := dw_42 wX10_net_c rfl
theorem dX10_net_165 : decode cX10_net 165 = .ok (.getfield 455, 3) := dw_180 wX10_net_c 1 199 rfl rfl
theorem dX10_net_168 : decode cX10_net 168 = .ok (.aload_n 0, 1) := dw_42 wX10_net_c rfl
theorem dX10_net_169 : decode cX10_net 169 = .ok (.getfield 438, 3) := dw_180 wX10_net_c 1 182 rfl rfl
theorem dX10_net_172 : decode cX10_net 172 = .ok (.iastore, 1) := dw_79 wX10_net_c rfl
theorem dX10_net_173 : decode cX10_net 173 = .ok (.aload_n 0, 1) := dw_42 wX10_net_c rfl
theorem dX10_net_174 : decode cX10_net 174 = .ok (.dup, 1) := dw_89 wX10_net_c rfl
theorem dX10_net_175 : decode cX10_net 175 = .ok (.getfield 455, 3) := dw_180 wX10_net_c 1 199 rfl rfl
theorem dX10_net_178 : decode cX10_net 178 = .ok (.iconst 1, 1) := dw_4 wX10_net_c rfl
theorem dX10_net_179 : decode cX10_net 179 = .ok (.iadd, 1) := dw_96 wX10_net_c rfl
theorem dX10_net_180 : decode cX10_net 180 = .ok (.putfield 455, 3) := dw_181 wX10_net_c 1 199 rfl rfl
theorem dX10_net_183 : decode cX10_net 183 = .ok (.iload_n 1, 1) := dw_27 wX10_net_c rfl
theorem dX10_net_184 : decode cX10_net 184 = .ok (.aload_n 0, 1) := dw_42 wX10_net_c rfl
theorem dX10_net_185 : decode cX10_net 185 = .ok (.getfield 438, 3) := dw_180 wX10_net_c 1 182 rfl rfl
theorem dX10_net_188 : decode cX10_net 188 = .ok (.aload_n 0, 1) := dw_42 wX10_net_c rfl
theorem dX10_net_189 : decode cX10_net 189 = .ok (.getfield 441, 3) := dw_180 wX10_net_c 1 185 rfl rfl
theorem dX10_net_192 : decode cX10_net 192 = .ok (.imul, 1) := dw_104 wX10_net_c rfl
theorem dX10_net_193 : decode cX10_net 193 = .ok (.iadd, 1) := dw_96 wX10_net_c rfl
theorem dX10_net_194 : decode cX10_net 194 = .ok (.istore_n 1, 1) := dw_60 wX10_net_c rfl
theorem dX10_net_195 : decode cX10_net 195 = .ok (.goto (-181), 3) := dn_167 wX10_net_c 255 75 rfl (by decide)
theorem dX10_net_198 : decode cX10_net 198 = .ok (.iload_n 1, 1) := dw_27 wX10_net_c rfl
theorem dX10_net_199 : decode cX10_net 199 = .ok (.ireturn, 1) := dw_172 wX10_net_c rfl