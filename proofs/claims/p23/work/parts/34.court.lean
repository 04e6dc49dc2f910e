def wNX9_act : Nat := 221446469973821643551480253479171646754978721631333843896718012185794714899837288530278329910846354831785205489431269632045186849256324441685273331767250282187413214627563203363563219922796973409736873132209194
theorem wX9_act_c : hz_cd cX9_act wNX9_act 87 := ⟨by decide +kernel, by decide +kernel⟩
theorem dX9_act_0 : decode cX9_act 0 = .ok (.aload_n 0, 1) := dw_42 wX9_act_c rfl
theorem dX9_act_1 : decode cX9_act 1 = .ok (.getfield 105, 3) := dw_180 wX9_act_c 0 105 rfl rfl
theorem dX9_act_4 : decode cX9_act 4 = .ok (.bipush 8, 2) := dw_16 wX9_act_c 8 rfl rfl rfl
theorem dX9_act_6 : decode cX9_act 6 = .ok (.if_icmp .ge 10, 3) := dw_162 wX9_act_c 0 10 rfl rfl rfl
theorem dX9_act_9 : decode cX9_act 9 = .ok (.iload_n 1, 1) := dw_27 wX9_act_c rfl
theorem dX9_act_10 : decode cX9_act 10 = .ok (.invokestatic 90, 3) := dw_184 wX9_act_c 0 90 rfl rfl
theorem dX9_act_13 : decode cX9_act 13 = .ok (.ifCond .ne 5, 3) := dw_154 wX9_act_c 0 5 rfl rfl rfl
theorem dX9_act_16 : decode cX9_act 16 = .ok (.iconst (-1), 1) := dw_2 wX9_act_c rfl
theorem dX9_act_17 : decode cX9_act 17 = .ok (.ireturn, 1) := dw_172 wX9_act_c rfl
theorem dX9_act_18 : decode cX9_act 18 = .ok (.new 20, 3) := dw_187 wX9_act_c 0 20 rfl rfl
theorem dX9_act_21 : decode cX9_act 21 = .ok (.dup, 1) := dw_89 wX9_act_c rfl
theorem dX9_act_22 : decode cX9_act 22 = .ok (.aload_n 0, 1) := dw_42 wX9_act_c rfl
theorem dX9_act_23 : decode cX9_act 23 = .ok (.getfield 105, 3) := dw_180 wX9_act_c 0 105 rfl rfl
theorem dX9_act_26 : decode cX9_act 26 = .ok (.iload_n 1, 1) := dw_27 wX9_act_c rfl
theorem dX9_act_27 : decode cX9_act 27 = .ok (.invokespecial 22, 3) := dw_183 wX9_act_c 0 22 rfl rfl
theorem dX9_act_30 : decode cX9_act 30 = .ok (.astore_n 2, 1) := dw_77 wX9_act_c rfl
theorem dX9_act_31 : decode cX9_act 31 = .ok (.aload_n 0, 1) := dw_42 wX9_act_c rfl
theorem dX9_act_32 : decode cX9_act 32 = .ok (.getfield 16, 3) := dw_180 wX9_act_c 0 16 rfl rfl
theorem dX9_act_35 : decode cX9_act 35 = .ok (.aload_n 0, 1) := dw_42 wX9_act_c rfl
theorem dX9_act_36 : decode cX9_act 36 = .ok (.getfield 9, 3) := dw_180 wX9_act_c 0 9 rfl rfl
theorem dX9_act_39 : decode cX9_act 39 = .ok (.aload_n 0, 1) := dw_42 wX9_act_c rfl
theorem dX9_act_40 : decode cX9_act 40 = .ok (.getfield 98, 3) := dw_180 wX9_act_c 0 98 rfl rfl
theorem dX9_act_43 : decode cX9_act 43 = .ok (.aload_n 2, 1) := dw_44 wX9_act_c rfl
theorem dX9_act_44 : decode cX9_act 44 = .ok (.invokevirtual 108, 3) := dw_182 wX9_act_c 0 108 rfl rfl
theorem dX9_act_47 : decode cX9_act 47 = .ok (.istore_n 3, 1) := dw_62 wX9_act_c rfl
theorem dX9_act_48 : decode cX9_act 48 = .ok (.aload_n 0, 1) := dw_42 wX9_act_c rfl
theorem dX9_act_49 : decode cX9_act 49 = .ok (.iconst 0, 1) := dw_3 wX9_act_c rfl
theorem dX9_act_50 : decode cX9_act 50 = .ok (.putfield 98, 3) := dw_181 wX9_act_c 0 98 rfl rfl
theorem dX9_act_53 : decode cX9_act 53 = .ok (.iload_n 3, 1) := dw_29 wX9_act_c rfl
theorem dX9_act_54 : decode cX9_act 54 = .ok (.ifCond .eq 8, 3) := dw_153 wX9_act_c 0 8 rfl rfl rfl
theorem dX9_act_57 : decode cX9_act 57 = .ok (.bipush (-2), 2) := dn_16 wX9_act_c 254 rfl (by decide)
theorem dX9_act_59 : decode cX9_act 59 = .ok (.iload_n 3, 1) := dw_29 wX9_act_c rfl
theorem dX9_act_60 : decode cX9_act 60 = .ok (.isub, 1) := dw_100 wX9_act_c rfl
theorem dX9_act_61 : decode cX9_act 61 = .ok (.ireturn, 1) := dw_172 wX9_act_c rfl
theorem dX9_act_62 : decode cX9_act 62 = .ok (.aload_n 0, 1) := dw_42 wX9_act_c rfl
theorem dX9_act_63 : decode cX9_act 63 = .ok (.getfield 29, 3) := dw_180 wX9_act_c 0 29 rfl rfl
theorem dX9_act_66 : decode cX9_act 66 = .ok (.aload_n 0, 1) := dw_42 wX9_act_c rfl
theorem dX9_act_67 : decode cX9_act 67 = .ok (.getfield 105, 3) := dw_180 wX9_act_c 0 105 rfl rfl
theorem dX9_act_70 : decode cX9_act 70 = .ok (.aload_n 2, 1) := dw_44 wX9_act_c rfl
theorem dX9_act_71 : decode cX9_act 71 = .ok (.aastore, 1) := dw_83 wX9_act_c rfl
theorem dX9_act_72 : decode cX9_act 72 = .ok (.aload_n 0, 1) := dw_42 wX9_act_c rfl
theorem dX9_act_73 : decode cX9_act 73 = .ok (.dup, 1) := dw_89 wX9_act_c rfl
theorem dX9_act_74 : decode cX9_act 74 = .ok (.getfield 105, 3) := dw_180 wX9_act_c 0 105 rfl rfl
theorem dX9_act_77 : decode cX9_act 77 = .ok (.iconst 1, 1) := dw_4 wX9_act_c rfl
theorem dX9_act_78 : decode cX9_act 78 = .ok (.iadd, 1) := dw_96 wX9_act_c rfl
theorem dX9_act_79 : decode cX9_act 79 = .ok (.putfield 105, 3) := dw_181 wX9_act_c 0 105 rfl rfl
theorem dX9_act_82 : decode cX9_act 82 = .ok (.aload_n 2, 1) := dw_44 wX9_act_c rfl
theorem dX9_act_83 : decode cX9_act 83 = .ok (.getfield 112, 3) := dw_180 wX9_act_c 0 112 rfl rfl
theorem dX9_act_86 : decode cX9_act 86 = .ok (.ireturn, 1) := dw_172 wX9_act_c rfl
def wNX9_file : Nat := 1626747674203070265234974778344949019153818279902001863127944570351021296070600194704902546843972326601679705475981575404159709095800674695779159476034485395399137975421427143194565070106116267173934679239115921860733232900306677578299346431239262988974674749374569266243848154222703559832927537312134103036415878083984014458289131332848552916777826052579725773513575767130138665928804562380955621514998988898954858740478300686795611055625403467731874622905654058
theorem wX9_file_c : hz_cd cX9_file wNX9_file 192 := ⟨by decide +kernel, by decide +kernel⟩
theorem dX9_file_0 : decode cX9_file 0 = .ok (.aload_n 0, 1) := dw_42 wX9_file_c rfl
theorem dX9_file_1 : decode cX9_file 1 = .ok (.iload_n 1, 1) := dw_27 wX9_file_c rfl
theorem dX9_file_2 : decode cX9_file 2 = .ok (.invokevirtual 144, 3) := dw_182 wX9_file_c 0 144 rfl rfl
theorem dX9_file_5 : decode cX9_file 5 = .ok (.astore 7, 2) := dw_58 wX9_file_c 7 rfl
theorem dX9_file_7 : decode cX9_file 7 = .ok (.aload_n 0, 1) := dw_42 wX9_file_c rfl
theorem dX9_file_8 : decode cX9_file 8 = .ok (.iload_n 2, 1) := dw_28 wX9_file_c rfl
theorem dX9_file_9 : decode cX9_file 9 = .ok (.invokevirtual 144, 3) := dw_182 wX9_file_c 0 144 rfl rfl
theorem dX9_file_12 : decode cX9_file 12 = .ok (.astore 8, 2) := dw_58 wX9_file_c 8 rfl
theorem dX9_file_14 : decode cX9_file 14 = .ok (.aload_n 0, 1) := dw_42 wX9_file_c rfl
theorem dX9_file_15 : decode cX9_file 15 = .ok (.getfield 181, 3) := dw_180 wX9_file_c 0 181 rfl rfl
theorem dX9_file_18 : decode cX9_file 18 = .ok (.bipush 100, 2) := dw_16 wX9_file_c 100 rfl rfl rfl
theorem dX9_file_20 : decode cX9_file 20 = .ok (.if_icmp .ge 61, 3) := dw_162 wX9_file_c 0 61 rfl rfl rfl
theorem dX9_file_23 : decode cX9_file 23 = .ok (.aload 7, 2) := dw_25 wX9_file_c 7 rfl
theorem dX9_file_25 : decode cX9_file 25 = .ok (.ifnull 56, 3) := dw_198 wX9_file_c 0 56 rfl rfl rfl
theorem dX9_file_28 : decode cX9_file 28 = .ok (.aload 8, 2) := dw_25 wX9_file_c 8 rfl
theorem dX9_file_30 : decode cX9_file 30 = .ok (.ifnull 51, 3) := dw_198 wX9_file_c 0 51 rfl rfl rfl
theorem dX9_file_33 : decode cX9_file 33 = .ok (.iload_n 1, 1) := dw_27 wX9_file_c rfl
theorem dX9_file_34 : decode cX9_file 34 = .ok (.iload_n 2, 1) := dw_28 wX9_file_c rfl
theorem dX9_file_35 : decode cX9_file 35 = .ok (.if_icmp .eq 46, 3) := dw_159 wX9_file_c 0 46 rfl rfl rfl
theorem dX9_file_38 : decode cX9_file 38 = .ok (.aload 8, 2) := dw_25 wX9_file_c 8 rfl
theorem dX9_file_40 : decode cX9_file 40 = .ok (.getfield 148, 3) := dw_180 wX9_file_c 0 148 rfl rfl
theorem dX9_file_43 : decode cX9_file 43 = .ok (.ifCond .ne 38, 3) := dw_154 wX9_file_c 0 38 rfl rfl rfl
theorem dX9_file_46 : decode cX9_file 46 = .ok (.iload_n 3, 1) := dw_29 wX9_file_c rfl
theorem dX9_file_47 : decode cX9_file 47 = .ok (.iconst 1, 1) := dw_4 wX9_file_c rfl
theorem dX9_file_48 : decode cX9_file 48 = .ok (.sipush 9999, 3) := dw_17 wX9_file_c 39 15 rfl rfl rfl
theorem dX9_file_51 : decode cX9_file 51 = .ok (.invokestatic 128, 3) := dw_184 wX9_file_c 0 128 rfl rfl
theorem dX9_file_54 : decode cX9_file 54 = .ok (.ifCond .eq 27, 3) := dw_153 wX9_file_c 0 27 rfl rfl rfl
theorem dX9_file_57 : decode cX9_file 57 = .ok (.iload 4, 2) := dw_21 wX9_file_c 4 rfl
theorem dX9_file_59 : decode cX9_file 59 = .ok (.iconst 0, 1) := dw_3 wX9_file_c rfl
theorem dX9_file_60 : decode cX9_file 60 = .ok (.aload_n 0, 1) := dw_42 wX9_file_c rfl
theorem dX9_file_61 : decode cX9_file 61 = .ok (.getfield 94, 3) := dw_180 wX9_file_c 0 94 rfl rfl
theorem dX9_file_64 : decode cX9_file 64 = .ok (.invokestatic 128, 3) := dw_184 wX9_file_c 0 128 rfl rfl
theorem dX9_file_67 : decode cX9_file 67 = .ok (.ifCond .eq 14, 3) := dw_153 wX9_file_c 0 14 rfl rfl rfl
theorem dX9_file_70 : decode cX9_file 70 = .ok (.iload 6, 2) := dw_21 wX9_file_c 6 rfl
theorem dX9_file_72 : decode cX9_file 72 = .ok (.iconst 0, 1) := dw_3 wX9_file_c rfl
theorem dX9_file_73 : decode cX9_file 73 = .ok (.bipush 9, 2) := dw_16 wX9_file_c 9 rfl rfl rfl
theorem dX9_file_75 : decode cX9_file 75 = .ok (.invokestatic 128, 3) := dw_184 wX9_file_c 0 128 rfl rfl
theorem dX9_file_78 : decode cX9_file 78 = .ok (.ifCond .ne 5, 3) := dw_154 wX9_file_c 0 5 rfl rfl rfl
theorem dX9_file_81 : decode cX9_file 81 = .ok (.iconst (-1), 1) := dw_2 wX9_file_c rfl
theorem dX9_file_82 : decode cX9_file 82 = .ok (.ireturn, 1) := dw_172 wX9_file_c rfl
theorem dX9_file_83 : decode cX9_file 83 = .ok (.new 46, 3) := dw_187 wX9_file_c 0 46 rfl rfl
theorem dX9_file_86 : decode cX9_file 86 = .ok (.dup, 1) := dw_89 wX9_file_c rfl
theorem dX9_file_87 : decode cX9_file 87 = .ok (.aload_n 0, 1) := dw_42 wX9_file_c rfl
theorem dX9_file_88 : decode cX9_file 88 = .ok (.getfield 181, 3) := dw_180 wX9_file_c 0 181 rfl rfl
theorem dX9_file_91 : decode cX9_file 91 = .ok (.aload 7, 2) := dw_25 wX9_file_c 7 rfl
theorem dX9_file_93 : decode cX9_file 93 = .ok (.aload 8, 2) := dw_25 wX9_file_c 8 rfl
theorem dX9_file_95 : decode cX9_file 95 = .ok (.aload_n 0, 1) := dw_42 wX9_file_c rfl
theorem dX9_file_96 : decode cX9_file 96 = .ok (.aload_n 0, 1) := dw_42 wX9_file_c rfl
theorem dX9_file_97 : decode cX9_file 97 = .ok (.getfield 94, 3) := dw_180 wX9_file_c 0 94 rfl rfl
theorem dX9_file_100 : decode cX9_file 100 = .ok (.invokevirtual 115, 3) := dw_182 wX9_file_c 0 115 rfl rfl
theorem dX9_file_103 : decode cX9_file 103 = .ok (.invokespecial 184, 3) := dw_183 wX9_file_c 0 184 rfl rfl
theorem dX9_file_106 : decode cX9_file 106 = .ok (.astore 9, 2) := dw_58 wX9_file_c 9 rfl
theorem dX9_file_108 : decode cX9_file 108 = .ok (.aload 9, 2) := dw_25 wX9_file_c 9 rfl
theorem dX9_file_110 : decode cX9_file 110 = .ok (.iload_n 3, 1) := dw_29 wX9_file_c rfl
theorem dX9_file_111 : decode cX9_file 111 = .ok (.putfield 187, 3) := dw_181 wX9_file_c 0 187 rfl rfl
theorem dX9_file_114 : decode cX9_file 114 = .ok (.aload 9, 2) := dw_25 wX9_file_c 9 rfl
theorem dX9_file_116 : decode cX9_file 116 = .ok (.iload 4, 2) := dw_21 wX9_file_c 4 rfl
theorem dX9_file_118 : decode cX9_file 118 = .ok (.putfield 190, 3) := dw_181 wX9_file_c 0 190 rfl rfl
theorem dX9_file_121 : decode cX9_file 121 = .ok (.aload 9, 2) := dw_25 wX9_file_c 9 rfl
theorem dX9_file_123 : decode cX9_file 123 = .ok (.aload_n 0, 1) := dw_42 wX9_file_c rfl
theorem dX9_file_124 : decode cX9_file 124 = .ok (.getfield 94, 3) := dw_180 wX9_file_c 0 94 rfl rfl
theorem dX9_file_127 : decode cX9_file 127 = .ok (.putfield 193, 3) := dw_181 wX9_file_c 0 193 rfl rfl
theorem dX9_file_130 : decode cX9_file 130 = .ok (.aload 9, 2) := dw_25 wX9_file_c 9 rfl
theorem dX9_file_132 : decode cX9_file 132 = .ok (.getfield 196, 3) := dw_180 wX9_file_c 0 196 rfl rfl
theorem dX9_file_135 : decode cX9_file 135 = .ok (.iconst 2, 1) := dw_5 wX9_file_c rfl
theorem dX9_file_136 : decode cX9_file 136 = .ok (.iload 5, 2) := dw_21 wX9_file_c 5 rfl
theorem dX9_file_138 : decode cX9_file 138 = .ok (.ifCond .eq 7, 3) := dw_153 wX9_file_c 0 7 rfl rfl rfl
theorem dX9_file_141 : decode cX9_file 141 = .ok (.iconst 1, 1) := dw_4 wX9_file_c rfl
theorem dX9_file_142 : decode cX9_file 142 = .ok (.goto 4, 3) := dw_167 wX9_file_c 0 4 rfl rfl rfl
theorem dX9_file_145 : decode cX9_file 145 = .ok (.iconst 0, 1) := dw_3 wX9_file_c rfl
theorem dX9_file_146 : decode cX9_file 146 = .ok (.iastore, 1) := dw_79 wX9_file_c rfl
theorem dX9_file_147 : decode cX9_file 147 = .ok (.aload 9, 2) := dw_25 wX9_file_c 9 rfl
theorem dX9_file_149 : decode cX9_file 149 = .ok (.getfield 196, 3) := dw_180 wX9_file_c 0 196 rfl rfl
theorem dX9_file_152 : decode cX9_file 152 = .ok (.iconst 3, 1) := dw_6 wX9_file_c rfl
theorem dX9_file_153 : decode cX9_file 153 = .ok (.iload 6, 2) := dw_21 wX9_file_c 6 rfl
theorem dX9_file_155 : decode cX9_file 155 = .ok (.iastore, 1) := dw_79 wX9_file_c rfl
theorem dX9_file_156 : decode cX9_file 156 = .ok (.aload 9, 2) := dw_25 wX9_file_c 9 rfl
theorem dX9_file_158 : decode cX9_file 158 = .ok (.getfield 196, 3) := dw_180 wX9_file_c 0 196 rfl rfl
theorem dX9_file_161 : decode cX9_file 161 = .ok (.bipush 7, 2) := dw_16 wX9_file_c 7 rfl rfl rfl
theorem dX9_file_163 : decode cX9_file 163 = .ok (.iload_n 3, 1) := dw_29 wX9_file_c rfl
theorem dX9_file_164 : decode cX9_file 164 = .ok (.iastore, 1) := dw_79 wX9_file_c rfl
theorem dX9_file_165 : decode cX9_file 165 = .ok (.aload_n 0, 1) := dw_42 wX9_file_c rfl
theorem dX9_file_166 : decode cX9_file 166 = .ok (.getfield 48, 3) := dw_180 wX9_file_c 0 48 rfl rfl
theorem dX9_file_169 : decode cX9_file 169 = .ok (.aload_n 0, 1) := dw_42 wX9_file_c rfl
theorem dX9_file_170 : decode cX9_file 170 = .ok (.getfield 181, 3) := dw_180 wX9_file_c 0 181 rfl rfl
theorem dX9_file_173 : decode cX9_file 173 = .ok (.aload 9, 2) := dw_25 wX9_file_c 9 rfl
theorem dX9_file_175 : decode cX9_file 175 = .ok (.aastore, 1) := dw_83 wX9_file_c rfl
theorem dX9_file_176 : decode cX9_file 176 = .ok (.aload_n 0, 1) := dw_42 wX9_file_c rfl
theorem dX9_file_177 : decode cX9_file 177 = .ok (.dup, 1) := dw_89 wX9_file_c rfl
theorem dX9_file_178 : decode cX9_file 178 = .ok (.getfield 181, 3) := dw_180 wX9_file_c 0 181 rfl rfl
theorem dX9_file_181 : decode cX9_file 181 = .ok (.iconst 1, 1) := dw_4 wX9_file_c rfl
theorem dX9_file_182 : decode cX9_file 182 = .ok (.iadd, 1) := dw_96 wX9_file_c rfl
theorem dX9_file_183 : decode cX9_file 183 = .ok (.putfield 181, 3) := dw_181 wX9_file_c 0 181 rfl rfl
theorem dX9_file_186 : decode cX9_file 186 = .ok (.aload 9, 2) := dw_25 wX9_file_c 9 rfl
theorem dX9_file_188 : decode cX9_file 188 = .ok (.getfield 199, 3) := dw_180 wX9_file_c 0 199 rfl rfl
theorem dX9_file_191 : decode cX9_file 191 = .ok (.ireturn, 1) := dw_172 wX9_file_c rfl
def wNX8_putOnList : Nat := 2870520772015958451680221803596881991909124933716795290266662712556726157339761989614160385776348758561185411718996126840584790502688667566896464635043270831302652945037202282296362
theorem wX8_putOnList_c : hz_cd cX8_putOnList wNX8_putOnList 75 := ⟨by decide +kernel, by decide +kernel⟩
theorem dX8_putOnList_0 : decode cX8_putOnList 0 = .ok (.aload_n 0, 1) := dw_42 wX8_putOnList_c rfl
theorem dX8_putOnList_1 : decode cX8_putOnList 1 = .ok (.getfield 24, 3) := dw_180 wX8_putOnList_c 0 24 rfl rfl
theorem dX8_putOnList_4 : decode cX8_putOnList 4 = .ok (.bipush 8, 2) := dw_16 wX8_putOnList_c 8 rfl rfl rfl
theorem dX8_putOnList_6 : decode cX8_putOnList 6 = .ok (.if_icmp .lt 4, 3) := dw_161 wX8_putOnList_c 0 4 rfl rfl rfl
theorem dX8_putOnList_10 : decode cX8_putOnList 10 = .ok (.aload_n 0, 1) := dw_42 wX8_putOnList_c rfl
theorem dX8_putOnList_11 : decode cX8_putOnList 11 = .ok (.getfield 24, 3) := dw_180 wX8_putOnList_c 0 24 rfl rfl
theorem dX8_putOnList_14 : decode cX8_putOnList 14 = .ok (.istore_n 2, 1) := dw_61 wX8_putOnList_c rfl
theorem dX8_putOnList_15 : decode cX8_putOnList 15 = .ok (.iload_n 2, 1) := dw_28 wX8_putOnList_c rfl
theorem dX8_putOnList_16 : decode cX8_putOnList 16 = .ok (.ifCond .le 41, 3) := dw_158 wX8_putOnList_c 0 41 rfl rfl rfl
theorem dX8_putOnList_19 : decode cX8_putOnList 19 = .ok (.aload_n 0, 1) := dw_42 wX8_putOnList_c rfl
theorem dX8_putOnList_20 : decode cX8_putOnList 20 = .ok (.getfield 17, 3) := dw_180 wX8_putOnList_c 0 17 rfl rfl
theorem dX8_putOnList_23 : decode cX8_putOnList 23 = .ok (.iload_n 2, 1) := dw_28 wX8_putOnList_c rfl
theorem dX8_putOnList_24 : decode cX8_putOnList 24 = .ok (.iconst 1, 1) := dw_4 wX8_putOnList_c rfl
theorem dX8_putOnList_25 : decode cX8_putOnList 25 = .ok (.isub, 1) := dw_100 wX8_putOnList_c rfl
theorem dX8_putOnList_26 : decode cX8_putOnList 26 = .ok (.aaload, 1) := dw_50 wX8_putOnList_c rfl
theorem dX8_putOnList_27 : decode cX8_putOnList 27 = .ok (.getfield 28, 3) := dw_180 wX8_putOnList_c 0 28 rfl rfl
theorem dX8_putOnList_30 : decode cX8_putOnList 30 = .ok (.aload_n 1, 1) := dw_43 wX8_putOnList_c rfl
theorem dX8_putOnList_31 : decode cX8_putOnList 31 = .ok (.getfield 28, 3) := dw_180 wX8_putOnList_c 0 28 rfl rfl
theorem dX8_putOnList_34 : decode cX8_putOnList 34 = .ok (.if_icmp .le 23, 3) := dw_164 wX8_putOnList_c 0 23 rfl rfl rfl
theorem dX8_putOnList_37 : decode cX8_putOnList 37 = .ok (.aload_n 0, 1) := dw_42 wX8_putOnList_c rfl
theorem dX8_putOnList_38 : decode cX8_putOnList 38 = .ok (.getfield 17, 3) := dw_180 wX8_putOnList_c 0 17 rfl rfl
theorem dX8_putOnList_41 : decode cX8_putOnList 41 = .ok (.iload_n 2, 1) := dw_28 wX8_putOnList_c rfl
theorem dX8_putOnList_42 : decode cX8_putOnList 42 = .ok (.aload_n 0, 1) := dw_42 wX8_putOnList_c rfl
theorem dX8_putOnList_43 : decode cX8_putOnList 43 = .ok (.getfield 17, 3) := dw_180 wX8_putOnList_c 0 17 rfl rfl
theorem dX8_putOnList_46 : decode cX8_putOnList 46 = .ok (.iload_n 2, 1) := dw_28 wX8_putOnList_c rfl
theorem dX8_putOnList_47 : decode cX8_putOnList 47 = .ok (.iconst 1, 1) := dw_4 wX8_putOnList_c rfl
theorem dX8_putOnList_48 : decode cX8_putOnList 48 = .ok (.isub, 1) := dw_100 wX8_putOnList_c rfl
theorem dX8_putOnList_49 : decode cX8_putOnList 49 = .ok (.aaload, 1) := dw_50 wX8_putOnList_c rfl
theorem dX8_putOnList_50 : decode cX8_putOnList 50 = .ok (.aastore, 1) := dw_83 wX8_putOnList_c rfl
theorem dX8_putOnList_51 : decode cX8_putOnList 51 = .ok (.iinc 2 (-1), 3) := dn_132 wX8_putOnList_c 2 255 rfl (by decide)
theorem dX8_putOnList_54 : decode cX8_putOnList 54 = .ok (.goto (-39), 3) := dn_167 wX8_putOnList_c 255 217 rfl (by decide)
theorem dX8_putOnList_57 : decode cX8_putOnList 57 = .ok (.aload_n 0, 1) := dw_42 wX8_putOnList_c rfl
theorem dX8_putOnList_58 : decode cX8_putOnList 58 = .ok (.getfield 17, 3) := dw_180 wX8_putOnList_c 0 17 rfl rfl
theorem dX8_putOnList_61 : decode cX8_putOnList 61 = .ok (.iload_n 2, 1) := dw_28 wX8_putOnList_c rfl
theorem dX8_putOnList_62 : decode cX8_putOnList 62 = .ok (.aload_n 1, 1) := dw_43 wX8_putOnList_c rfl
theorem dX8_putOnList_63 : decode cX8_putOnList 63 = .ok (.aastore, 1) := dw_83 wX8_putOnList_c rfl
theorem dX8_putOnList_64 : decode cX8_putOnList 64 = .ok (.aload_n 0, 1) := dw_42 wX8_putOnList_c rfl
theorem dX8_putOnList_65 : decode cX8_putOnList 65 = .ok (.dup, 1) := dw_89 wX8_putOnList_c rfl
theorem dX8_putOnList_66 : decode cX8_putOnList 66 = .ok (.getfield 24, 3) := dw_180 wX8_putOnList_c 0 24 rfl rfl
theorem dX8_putOnList_69 : decode cX8_putOnList 69 = .ok (.iconst 1, 1) := dw_4 wX8_putOnList_c rfl
theorem dX8_putOnList_70 : decode cX8_putOnList 70 = .ok (.iadd, 1) := dw_96 wX8_putOnList_c rfl
theorem dX8_putOnList_71 : decode cX8_putOnList 71 = .ok (.putfield 24, 3) := dw_181 wX8_putOnList_c 0 24 rfl rfl
theorem dX8_putOnList_74 : decode cX8_putOnList 74 = .ok (.return_, 1) := dw_177 wX8_putOnList_c rfl
def wNX9_list : Nat := 8216325731323636227579525366192848703658631091919725450589020952638217947205755028787937525642047554695328721014040508673149241115203740244778
theorem wX9_list_c : hz_cd cX9_list wNX9_list 59 := ⟨by decide +kernel, by decide +kernel⟩
theorem dX9_list_0 : decode cX9_list 0 = .ok (.aload_n 0, 1) := dw_42 wX9_list_c rfl
theorem dX9_list_1 : decode cX9_list 1 = .ok (.iload_n 1, 1) := dw_27 wX9_list_c rfl
theorem dX9_list_2 : decode cX9_list 2 = .ok (.invokevirtual 200, 3) := dw_182 wX9_list_c 0 200 rfl rfl
theorem dX9_list_5 : decode cX9_list 5 = .ok (.astore_n 2, 1) := dw_77 wX9_list_c rfl
theorem dX9_list_6 : decode cX9_list 6 = .ok (.aload_n 2, 1) := dw_44 wX9_list_c rfl
theorem dX9_list_7 : decode cX9_list 7 = .ok (.ifnull 34, 3) := dw_198 wX9_list_c 0 34 rfl rfl rfl
theorem dX9_list_10 : decode cX9_list 10 = .ok (.aload_n 2, 1) := dw_44 wX9_list_c rfl
theorem dX9_list_11 : decode cX9_list 11 = .ok (.getfield 204, 3) := dw_180 wX9_list_c 0 204 rfl rfl
theorem dX9_list_14 : decode cX9_list 14 = .ok (.iconst (-1), 1) := dw_2 wX9_list_c rfl
theorem dX9_list_15 : decode cX9_list 15 = .ok (.if_icmp .ne 26, 3) := dw_160 wX9_list_c 0 26 rfl rfl rfl
theorem dX9_list_18 : decode cX9_list 18 = .ok (.aload_n 0, 1) := dw_42 wX9_list_c rfl
theorem dX9_list_19 : decode cX9_list 19 = .ok (.getfield 86, 3) := dw_180 wX9_list_c 0 86 rfl rfl
theorem dX9_list_22 : decode cX9_list 22 = .ok (.aload_n 2, 1) := dw_44 wX9_list_c rfl
theorem dX9_list_23 : decode cX9_list 23 = .ok (.invokevirtual 378, 3) := dw_182 wX9_list_c 1 122 rfl rfl
theorem dX9_list_26 : decode cX9_list 26 = .ok (.ifCond .ne 15, 3) := dw_154 wX9_list_c 0 15 rfl rfl rfl
theorem dX9_list_29 : decode cX9_list 29 = .ok (.aload_n 0, 1) := dw_42 wX9_list_c rfl
theorem dX9_list_30 : decode cX9_list 30 = .ok (.getfield 86, 3) := dw_180 wX9_list_c 0 86 rfl rfl
theorem dX9_list_33 : decode cX9_list 33 = .ok (.getfield 381, 3) := dw_180 wX9_list_c 1 125 rfl rfl
theorem dX9_list_36 : decode cX9_list 36 = .ok (.bipush 8, 2) := dw_16 wX9_list_c 8 rfl rfl rfl
theorem dX9_list_38 : decode cX9_list 38 = .ok (.if_icmp .lt 5, 3) := dw_161 wX9_list_c 0 5 rfl rfl rfl
theorem dX9_list_41 : decode cX9_list 41 = .ok (.iconst (-1), 1) := dw_2 wX9_list_c rfl
theorem dX9_list_42 : decode cX9_list 42 = .ok (.ireturn, 1) := dw_172 wX9_list_c rfl
theorem dX9_list_43 : decode cX9_list 43 = .ok (.aload_n 0, 1) := dw_42 wX9_list_c rfl
theorem dX9_list_44 : decode cX9_list 44 = .ok (.getfield 86, 3) := dw_180 wX9_list_c 0 86 rfl rfl
theorem dX9_list_47 : decode cX9_list 47 = .ok (.aload_n 2, 1) := dw_44 wX9_list_c rfl
theorem dX9_list_48 : decode cX9_list 48 = .ok (.invokevirtual 384, 3) := dw_182 wX9_list_c 1 128 rfl rfl
theorem dX9_list_51 : decode cX9_list 51 = .ok (.aload_n 0, 1) := dw_42 wX9_list_c rfl
theorem dX9_list_52 : decode cX9_list 52 = .ok (.getfield 86, 3) := dw_180 wX9_list_c 0 86 rfl rfl
theorem dX9_list_55 : decode cX9_list 55 = .ok (.getfield 381, 3) := dw_180 wX9_list_c 1 125 rfl rfl
theorem dX9_list_58 : decode cX9_list 58 = .ok (.ireturn, 1) := dw_172 wX9_list_c rfl
def wNX9_plan : Nat := 2454044627011695060154424541238290495822731579819271488949325456198735753730435179365274007146244831971265897153261345510645123467661727554342295471135042603909672545392194298050774940435645883786697509543538541281860339902520489403729597792161391032783270392679040679842655316040479329908391323119228703687734393845662197763894896405912362
theorem wX9_plan_c : hz_cd cX9_plan wNX9_plan 141 := ⟨by decide +kernel, by decide +kernel⟩
theorem dX9_plan_0 : decode cX9_plan 0 = .ok (.aload_n 0, 1) := dw_42 wX9_plan_c rfl
theorem dX9_plan_1 : decode cX9_plan 1 = .ok (.iload_n 1, 1) := dw_27 wX9_plan_c rfl
theorem dX9_plan_2 : decode cX9_plan 2 = .ok (.invokevirtual 144, 3) := dw_182 wX9_plan_c 0 144 rfl rfl
theorem dX9_plan_5 : decode cX9_plan 5 = .ok (.astore_n 3, 1) := dw_78 wX9_plan_c rfl
theorem dX9_plan_6 : decode cX9_plan 6 = .ok (.aload_n 3, 1) := dw_45 wX9_plan_c rfl
theorem dX9_plan_7 : decode cX9_plan 7 = .ok (.ifnull 13, 3) := dw_198 wX9_plan_c 0 13 rfl rfl rfl
theorem dX9_plan_10 : decode cX9_plan 10 = .ok (.iload_n 2, 1) := dw_28 wX9_plan_c rfl
theorem dX9_plan_11 : decode cX9_plan 11 = .ok (.iconst 1, 1) := dw_4 wX9_plan_c rfl
theorem dX9_plan_12 : decode cX9_plan 12 = .ok (.bipush 99, 2) := dw_16 wX9_plan_c 99 rfl rfl rfl
theorem dX9_plan_14 : decode cX9_plan 14 = .ok (.invokestatic 128, 3) := dw_184 wX9_plan_c 0 128 rfl rfl
theorem dX9_plan_17 : decode cX9_plan 17 = .ok (.ifCond .ne 5, 3) := dw_154 wX9_plan_c 0 5 rfl rfl rfl
theorem dX9_plan_20 : decode cX9_plan 20 = .ok (.iconst (-1), 1) := dw_2 wX9_plan_c rfl
theorem dX9_plan_21 : decode cX9_plan 21 = .ok (.ireturn, 1) := dw_172 wX9_plan_c rfl
theorem dX9_plan_22 : decode cX9_plan 22 = .ok (.aload_n 0, 1) := dw_42 wX9_plan_c rfl
theorem dX9_plan_23 : decode cX9_plan 23 = .ok (.getfield 72, 3) := dw_180 wX9_plan_c 0 72 rfl rfl
theorem dX9_plan_26 : decode cX9_plan 26 = .ok (.iload_n 2, 1) := dw_28 wX9_plan_c rfl
theorem dX9_plan_27 : decode cX9_plan 27 = .ok (.aload_n 3, 1) := dw_45 wX9_plan_c rfl
theorem dX9_plan_28 : decode cX9_plan 28 = .ok (.aload_n 0, 1) := dw_42 wX9_plan_c rfl
theorem dX9_plan_29 : decode cX9_plan 29 = .ok (.aload_n 0, 1) := dw_42 wX9_plan_c rfl
theorem dX9_plan_30 : decode cX9_plan 30 = .ok (.getfield 94, 3) := dw_180 wX9_plan_c 0 94 rfl rfl
theorem dX9_plan_33 : decode cX9_plan 33 = .ok (.invokevirtual 115, 3) := dw_182 wX9_plan_c 0 115 rfl rfl
theorem dX9_plan_36 : decode cX9_plan 36 = .ok (.invokevirtual 264, 3) := dw_182 wX9_plan_c 1 8 rfl rfl
theorem dX9_plan_39 : decode cX9_plan 39 = .ok (.invokevirtual 323, 3) := dw_182 wX9_plan_c 1 67 rfl rfl
theorem dX9_plan_42 : decode cX9_plan 42 = .ok (.iconst 0, 1) := dw_3 wX9_plan_c rfl
theorem dX9_plan_43 : decode cX9_plan 43 = .ok (.istore 4, 2) := dw_54 wX9_plan_c 4 rfl
theorem dX9_plan_45 : decode cX9_plan 45 = .ok (.iload 4, 2) := dw_21 wX9_plan_c 4 rfl
theorem dX9_plan_47 : decode cX9_plan 47 = .ok (.aload_n 0, 1) := dw_42 wX9_plan_c rfl
theorem dX9_plan_48 : decode cX9_plan 48 = .ok (.getfield 181, 3) := dw_180 wX9_plan_c 0 181 rfl rfl
theorem dX9_plan_51 : decode cX9_plan 51 = .ok (.if_icmp .ge 82, 3) := dw_162 wX9_plan_c 0 82 rfl rfl rfl
theorem dX9_plan_54 : decode cX9_plan 54 = .ok (.aload_n 0, 1) := dw_42 wX9_plan_c rfl
theorem dX9_plan_55 : decode cX9_plan 55 = .ok (.getfield 48, 3) := dw_180 wX9_plan_c 0 48 rfl rfl
theorem dX9_plan_58 : decode cX9_plan 58 = .ok (.iload 4, 2) := dw_21 wX9_plan_c 4 rfl
theorem dX9_plan_60 : decode cX9_plan 60 = .ok (.aaload, 1) := dw_50 wX9_plan_c rfl
theorem dX9_plan_61 : decode cX9_plan 61 = .ok (.astore 5, 2) := dw_58 wX9_plan_c 5 rfl
theorem dX9_plan_63 : decode cX9_plan 63 = .ok (.aload 5, 2) := dw_25 wX9_plan_c 5 rfl
theorem dX9_plan_65 : decode cX9_plan 65 = .ok (.getfield 212, 3) := dw_180 wX9_plan_c 0 212 rfl rfl
theorem dX9_plan_68 : decode cX9_plan 68 = .ok (.aload_n 3, 1) := dw_45 wX9_plan_c rfl
theorem dX9_plan_69 : decode cX9_plan 69 = .ok (.if_acmp .ne 58, 3) := dw_166 wX9_plan_c 0 58 rfl rfl rfl
theorem dX9_plan_72 : decode cX9_plan 72 = .ok (.aload 5, 2) := dw_25 wX9_plan_c 5 rfl
theorem dX9_plan_74 : decode cX9_plan 74 = .ok (.aload_n 0, 1) := dw_42 wX9_plan_c rfl
theorem dX9_plan_75 : decode cX9_plan 75 = .ok (.getfield 58, 3) := dw_180 wX9_plan_c 0 58 rfl rfl
theorem dX9_plan_78 : decode cX9_plan 78 = .ok (.aload_n 0, 1) := dw_42 wX9_plan_c rfl
theorem dX9_plan_79 : decode cX9_plan 79 = .ok (.getfield 94, 3) := dw_180 wX9_plan_c 0 94 rfl rfl
theorem dX9_plan_82 : decode cX9_plan 82 = .ok (.invokevirtual 274, 3) := dw_182 wX9_plan_c 1 18 rfl rfl
theorem dX9_plan_85 : decode cX9_plan 85 = .ok (.ifCond .eq 42, 3) := dw_153 wX9_plan_c 0 42 rfl rfl rfl
theorem dX9_plan_88 : decode cX9_plan 88 = .ok (.aload_n 0, 1) := dw_42 wX9_plan_c rfl
theorem dX9_plan_89 : decode cX9_plan 89 = .ok (.getfield 72, 3) := dw_180 wX9_plan_c 0 72 rfl rfl
theorem dX9_plan_92 : decode cX9_plan 92 = .ok (.getfield 326, 3) := dw_180 wX9_plan_c 1 70 rfl rfl
theorem dX9_plan_95 : decode cX9_plan 95 = .ok (.iconst 4, 1) := dw_7 wX9_plan_c rfl
theorem dX9_plan_96 : decode cX9_plan 96 = .ok (.if_icmp .lt 5, 3) := dw_161 wX9_plan_c 0 5 rfl rfl rfl
theorem dX9_plan_99 : decode cX9_plan 99 = .ok (.iconst (-1), 1) := dw_2 wX9_plan_c rfl
theorem dX9_plan_100 : decode cX9_plan 100 = .ok (.ireturn, 1) := dw_172 wX9_plan_c rfl
theorem dX9_plan_101 : decode cX9_plan 101 = .ok (.aload_n 0, 1) := dw_42 wX9_plan_c rfl
theorem dX9_plan_102 : decode cX9_plan 102 = .ok (.getfield 72, 3) := dw_180 wX9_plan_c 0 72 rfl rfl
theorem dX9_plan_105 : decode cX9_plan 105 = .ok (.aload 5, 2) := dw_25 wX9_plan_c 5 rfl
theorem dX9_plan_107 : decode cX9_plan 107 = .ok (.aload 5, 2) := dw_25 wX9_plan_c 5 rfl
theorem dX9_plan_109 : decode cX9_plan 109 = .ok (.aload_n 0, 1) := dw_42 wX9_plan_c rfl
theorem dX9_plan_110 : decode cX9_plan 110 = .ok (.getfield 58, 3) := dw_180 wX9_plan_c 0 58 rfl rfl
theorem dX9_plan_113 : decode cX9_plan 113 = .ok (.aload_n 0, 1) := dw_42 wX9_plan_c rfl
theorem dX9_plan_114 : decode cX9_plan 114 = .ok (.getfield 94, 3) := dw_180 wX9_plan_c 0 94 rfl rfl
theorem dX9_plan_117 : decode cX9_plan 117 = .ok (.aload_n 0, 1) := dw_42 wX9_plan_c rfl
theorem dX9_plan_118 : decode cX9_plan 118 = .ok (.getfield 94, 3) := dw_180 wX9_plan_c 0 94 rfl rfl
theorem dX9_plan_121 : decode cX9_plan 121 = .ok (.invokevirtual 302, 3) := dw_182 wX9_plan_c 1 46 rfl rfl
theorem dX9_plan_124 : decode cX9_plan 124 = .ok (.invokevirtual 329, 3) := dw_182 wX9_plan_c 1 73 rfl rfl
theorem dX9_plan_127 : decode cX9_plan 127 = .ok (.iinc 4 1, 3) := dw_132 wX9_plan_c 4 1 rfl rfl rfl
theorem dX9_plan_130 : decode cX9_plan 130 = .ok (.goto (-85), 3) := dn_167 wX9_plan_c 255 171 rfl (by decide)
theorem dX9_plan_133 : decode cX9_plan 133 = .ok (.aload_n 0, 1) := dw_42 wX9_plan_c rfl
theorem dX9_plan_134 : decode cX9_plan 134 = .ok (.getfield 72, 3) := dw_180 wX9_plan_c 0 72 rfl rfl
theorem dX9_plan_137 : decode cX9_plan 137 = .ok (.invokevirtual 333, 3) := dw_182 wX9_plan_c 1 77 rfl rfl
theorem dX9_plan_140 : decode cX9_plan 140 = .ok (.ireturn, 1) := dw_172 wX9_plan_c rfl