def wNX10_begins : Nat := 4167474028348923249217084479837142356633413561201143994539681045904487275942966070942482958648192309341094862420626161525291959365207935341654719776748978842217046461656180701054486706979843734601075966966019815978430898279353009925284476458
theorem wX10_begins_c : hz_cd cX10_begins wNX10_begins 100 := ⟨by decide +kernel, by decide +kernel⟩
theorem dX10_begins_0 : decode cX10_begins 0 = .ok (.aload_n 0, 1) := dw_42 wX10_begins_c rfl
theorem dX10_begins_1 : decode cX10_begins 1 = .ok (.invokevirtual 248, 3) := dw_182 wX10_begins_c 0 248 rfl rfl
theorem dX10_begins_4 : decode cX10_begins 4 = .ok (.istore_n 1, 1) := dw_60 wX10_begins_c rfl
theorem dX10_begins_5 : decode cX10_begins 5 = .ok (.aload_n 0, 1) := dw_42 wX10_begins_c rfl
theorem dX10_begins_6 : decode cX10_begins 6 = .ok (.invokevirtual 277, 3) := dw_182 wX10_begins_c 1 21 rfl rfl
theorem dX10_begins_9 : decode cX10_begins 9 = .ok (.istore_n 2, 1) := dw_61 wX10_begins_c rfl
theorem dX10_begins_10 : decode cX10_begins 10 = .ok (.iload_n 1, 1) := dw_27 wX10_begins_c rfl
theorem dX10_begins_11 : decode cX10_begins 11 = .ok (.bipush 40, 2) := dw_16 wX10_begins_c 40 rfl rfl rfl
theorem dX10_begins_13 : decode cX10_begins 13 = .ok (.if_icmp .eq 14, 3) := dw_159 wX10_begins_c 0 14 rfl rfl rfl
theorem dX10_begins_16 : decode cX10_begins 16 = .ok (.iload_n 2, 1) := dw_28 wX10_begins_c rfl
theorem dX10_begins_17 : decode cX10_begins 17 = .ok (.iconst 2, 1) := dw_5 wX10_begins_c rfl
theorem dX10_begins_18 : decode cX10_begins 18 = .ok (.if_icmp .eq 9, 3) := dw_159 wX10_begins_c 0 9 rfl rfl rfl
theorem dX10_begins_21 : decode cX10_begins 21 = .ok (.aload_n 0, 1) := dw_42 wX10_begins_c rfl
theorem dX10_begins_22 : decode cX10_begins 22 = .ok (.iload_n 2, 1) := dw_28 wX10_begins_c rfl
theorem dX10_begins_23 : decode cX10_begins 23 = .ok (.invokevirtual 290, 3) := dw_182 wX10_begins_c 1 34 rfl rfl
theorem dX10_begins_26 : decode cX10_begins 26 = .ok (.ireturn, 1) := dw_172 wX10_begins_c rfl
theorem dX10_begins_27 : decode cX10_begins 27 = .ok (.aload_n 0, 1) := dw_42 wX10_begins_c rfl
theorem dX10_begins_28 : decode cX10_begins 28 = .ok (.invokevirtual 293, 3) := dw_182 wX10_begins_c 1 37 rfl rfl
theorem dX10_begins_31 : decode cX10_begins 31 = .ok (.bipush 8, 2) := dw_16 wX10_begins_c 8 rfl rfl rfl
theorem dX10_begins_33 : decode cX10_begins 33 = .ok (.if_icmp .ne 13, 3) := dw_160 wX10_begins_c 0 13 rfl rfl rfl
theorem dX10_begins_36 : decode cX10_begins 36 = .ok (.aload_n 0, 1) := dw_42 wX10_begins_c rfl
theorem dX10_begins_37 : decode cX10_begins 37 = .ok (.iconst 3, 1) := dw_6 wX10_begins_c rfl
theorem dX10_begins_38 : decode cX10_begins 38 = .ok (.aload_n 0, 1) := dw_42 wX10_begins_c rfl
theorem dX10_begins_39 : decode cX10_begins 39 = .ok (.getfield 245, 3) := dw_180 wX10_begins_c 0 245 rfl rfl
theorem dX10_begins_42 : decode cX10_begins 42 = .ok (.invokevirtual 255, 3) := dw_182 wX10_begins_c 0 255 rfl rfl
theorem dX10_begins_45 : decode cX10_begins 45 = .ok (.ireturn, 1) := dw_172 wX10_begins_c rfl
theorem dX10_begins_46 : decode cX10_begins 46 = .ok (.aload_n 0, 1) := dw_42 wX10_begins_c rfl
theorem dX10_begins_47 : decode cX10_begins 47 = .ok (.getfield 32, 3) := dw_180 wX10_begins_c 0 32 rfl rfl
theorem dX10_begins_50 : decode cX10_begins 50 = .ok (.aload_n 0, 1) := dw_42 wX10_begins_c rfl
theorem dX10_begins_51 : decode cX10_begins 51 = .ok (.getfield 265, 3) := dw_180 wX10_begins_c 1 9 rfl rfl
theorem dX10_begins_54 : decode cX10_begins 54 = .ok (.iload_n 1, 1) := dw_27 wX10_begins_c rfl
theorem dX10_begins_55 : decode cX10_begins 55 = .ok (.bipush 40, 2) := dw_16 wX10_begins_c 40 rfl rfl rfl
theorem dX10_begins_57 : decode cX10_begins 57 = .ok (.if_icmp .ne 8, 3) := dw_160 wX10_begins_c 0 8 rfl rfl rfl
theorem dX10_begins_60 : decode cX10_begins 60 = .ok (.bipush 100, 2) := dw_16 wX10_begins_c 100 rfl rfl rfl
theorem dX10_begins_62 : decode cX10_begins 62 = .ok (.goto 4, 3) := dw_167 wX10_begins_c 0 4 rfl rfl rfl
theorem dX10_begins_65 : decode cX10_begins 65 = .ok (.iconst 2, 1) := dw_5 wX10_begins_c rfl
theorem dX10_begins_66 : decode cX10_begins 66 = .ok (.iastore, 1) := dw_79 wX10_begins_c rfl
theorem dX10_begins_67 : decode cX10_begins 67 = .ok (.aload_n 0, 1) := dw_42 wX10_begins_c rfl
theorem dX10_begins_68 : decode cX10_begins 68 = .ok (.dup, 1) := dw_89 wX10_begins_c rfl
theorem dX10_begins_69 : decode cX10_begins 69 = .ok (.getfield 265, 3) := dw_180 wX10_begins_c 1 9 rfl rfl
theorem dX10_begins_72 : decode cX10_begins 72 = .ok (.iconst 1, 1) := dw_4 wX10_begins_c rfl
theorem dX10_begins_73 : decode cX10_begins 73 = .ok (.iadd, 1) := dw_96 wX10_begins_c rfl
theorem dX10_begins_74 : decode cX10_begins 74 = .ok (.putfield 265, 3) := dw_181 wX10_begins_c 1 9 rfl rfl
theorem dX10_begins_77 : decode cX10_begins 77 = .ok (.aload_n 0, 1) := dw_42 wX10_begins_c rfl
theorem dX10_begins_78 : decode cX10_begins 78 = .ok (.dup, 1) := dw_89 wX10_begins_c rfl
theorem dX10_begins_79 : decode cX10_begins 79 = .ok (.getfield 245, 3) := dw_180 wX10_begins_c 0 245 rfl rfl
theorem dX10_begins_82 : decode cX10_begins 82 = .ok (.iload_n 1, 1) := dw_27 wX10_begins_c rfl
theorem dX10_begins_83 : decode cX10_begins 83 = .ok (.bipush 40, 2) := dw_16 wX10_begins_c 40 rfl rfl rfl
theorem dX10_begins_85 : decode cX10_begins 85 = .ok (.if_icmp .ne 7, 3) := dw_160 wX10_begins_c 0 7 rfl rfl rfl
theorem dX10_begins_88 : decode cX10_begins 88 = .ok (.iconst 1, 1) := dw_4 wX10_begins_c rfl
theorem dX10_begins_89 : decode cX10_begins 89 = .ok (.goto 4, 3) := dw_167 wX10_begins_c 0 4 rfl rfl rfl
theorem dX10_begins_92 : decode cX10_begins 92 = .ok (.iconst 3, 1) := dw_6 wX10_begins_c rfl
theorem dX10_begins_93 : decode cX10_begins 93 = .ok (.iadd, 1) := dw_96 wX10_begins_c rfl
theorem dX10_begins_94 : decode cX10_begins 94 = .ok (.putfield 245, 3) := dw_181 wX10_begins_c 0 245 rfl rfl
theorem dX10_begins_97 : decode cX10_begins 97 = .ok (.goto (-97), 3) := dn_167 wX10_begins_c 255 159 rfl (by decide)
theorem dX10_clears_0 : decode cX10_clears 0 = .ok (.aload_n 0, 1) := by decide +kernel
theorem dX10_clears_1 : decode cX10_clears 1 = .ok (.iconst 0, 1) := by decide +kernel
theorem dX10_clears_2 : decode cX10_clears 2 = .ok (.putfield 262, 3) := by decide +kernel
theorem dX10_clears_5 : decode cX10_clears 5 = .ok (.aload_n 0, 1) := by decide +kernel
theorem dX10_clears_6 : decode cX10_clears 6 = .ok (.iconst 0, 1) := by decide +kernel
theorem dX10_clears_7 : decode cX10_clears 7 = .ok (.putfield 274, 3) := by decide +kernel
theorem dX10_clears_10 : decode cX10_clears 10 = .ok (.aload_n 0, 1) := by decide +kernel
theorem dX10_clears_11 : decode cX10_clears 11 = .ok (.iconst 0, 1) := by decide +kernel
theorem dX10_clears_12 : decode cX10_clears 12 = .ok (.putfield 265, 3) := by decide +kernel
theorem dX10_clears_15 : decode cX10_clears 15 = .ok (.return_, 1) := by decide +kernel
def wNX10_either : Nat := 40385582389748521173009336014017780105631589523021847658813338353589920018973842847086778061106445990565897741815081504448210396459163157967633909736768017898701703925261066152190235863630919309776231145903899479182308831148865443709767773822868772050166930959169575218732756180613723548966011637290215890355401683626045131011957401535888170487522445264308964003292318652377517485903745344700533503032888897493954055886344038692394
theorem wX10_either_c : hz_cd cX10_either wNX10_either 179 := ⟨by decide +kernel, by decide +kernel⟩
theorem dX10_either_0 : decode cX10_either 0 = .ok (.aload_n 0, 1) := dw_42 wX10_either_c rfl
theorem dX10_either_1 : decode cX10_either 1 = .ok (.invokevirtual 218, 3) := dw_182 wX10_either_c 0 218 rfl rfl
theorem dX10_either_4 : decode cX10_either 4 = .ok (.iconst 1, 1) := dw_4 wX10_either_c rfl
theorem dX10_either_5 : decode cX10_either 5 = .ok (.istore_n 1, 1) := dw_60 wX10_either_c rfl
theorem dX10_either_6 : decode cX10_either 6 = .ok (.iload_n 1, 1) := dw_27 wX10_either_c rfl
theorem dX10_either_7 : decode cX10_either 7 = .ok (.ifCond .eq 12, 3) := dw_153 wX10_either_c 0 12 rfl rfl rfl
theorem dX10_either_10 : decode cX10_either 10 = .ok (.aload_n 0, 1) := dw_42 wX10_either_c rfl
theorem dX10_either_11 : decode cX10_either 11 = .ok (.invokevirtual 296, 3) := dw_182 wX10_either_c 1 40 rfl rfl
theorem dX10_either_14 : decode cX10_either 14 = .ok (.ifCond .ne 5, 3) := dw_154 wX10_either_c 0 5 rfl rfl rfl
theorem dX10_either_17 : decode cX10_either 17 = .ok (.iconst 0, 1) := dw_3 wX10_either_c rfl
theorem dX10_either_18 : decode cX10_either 18 = .ok (.ireturn, 1) := dw_172 wX10_either_c rfl
theorem dX10_either_19 : decode cX10_either 19 = .ok (.iload_n 1, 1) := dw_27 wX10_either_c rfl
theorem dX10_either_20 : decode cX10_either 20 = .ok (.ifCond .eq 7, 3) := dw_153 wX10_either_c 0 7 rfl rfl rfl
theorem dX10_either_23 : decode cX10_either 23 = .ok (.aload_n 0, 1) := dw_42 wX10_either_c rfl
theorem dX10_either_24 : decode cX10_either 24 = .ok (.invokevirtual 300, 3) := dw_182 wX10_either_c 1 44 rfl rfl
theorem dX10_either_27 : decode cX10_either 27 = .ok (.iconst 0, 1) := dw_3 wX10_either_c rfl
theorem dX10_either_28 : decode cX10_either 28 = .ok (.istore_n 1, 1) := dw_60 wX10_either_c rfl
theorem dX10_either_29 : decode cX10_either 29 = .ok (.aload_n 0, 1) := dw_42 wX10_either_c rfl
theorem dX10_either_30 : decode cX10_either 30 = .ok (.invokevirtual 248, 3) := dw_182 wX10_either_c 0 248 rfl rfl
theorem dX10_either_33 : decode cX10_either 33 = .ok (.istore_n 2, 1) := dw_61 wX10_either_c rfl
theorem dX10_either_34 : decode cX10_either 34 = .ok (.aload_n 0, 1) := dw_42 wX10_either_c rfl
theorem dX10_either_35 : decode cX10_either 35 = .ok (.invokevirtual 277, 3) := dw_182 wX10_either_c 1 21 rfl rfl
theorem dX10_either_38 : decode cX10_either 38 = .ok (.istore_n 3, 1) := dw_62 wX10_either_c rfl
theorem dX10_either_39 : decode cX10_either 39 = .ok (.iload_n 3, 1) := dw_29 wX10_either_c rfl
theorem dX10_either_40 : decode cX10_either 40 = .ok (.iconst 1, 1) := dw_4 wX10_either_c rfl
theorem dX10_either_41 : decode cX10_either 41 = .ok (.if_icmp .eq 7, 3) := dw_159 wX10_either_c 0 7 rfl rfl rfl
theorem dX10_either_44 : decode cX10_either 44 = .ok (.iload_n 3, 1) := dw_29 wX10_either_c rfl
theorem dX10_either_45 : decode cX10_either 45 = .ok (.ifCond .ne 46, 3) := dw_154 wX10_either_c 0 46 rfl rfl rfl
theorem dX10_either_48 : decode cX10_either 48 = .ok (.aload_n 0, 1) := dw_42 wX10_either_c rfl
theorem dX10_either_49 : decode cX10_either 49 = .ok (.iload_n 3, 1) := dw_29 wX10_either_c rfl
theorem dX10_either_50 : decode cX10_either 50 = .ok (.invokevirtual 303, 3) := dw_182 wX10_either_c 1 47 rfl rfl
theorem dX10_either_53 : decode cX10_either 53 = .ok (.aload_n 0, 1) := dw_42 wX10_either_c rfl
theorem dX10_either_54 : decode cX10_either 54 = .ok (.getfield 32, 3) := dw_180 wX10_either_c 0 32 rfl rfl
theorem dX10_either_57 : decode cX10_either 57 = .ok (.aload_n 0, 1) := dw_42 wX10_either_c rfl
theorem dX10_either_58 : decode cX10_either 58 = .ok (.getfield 265, 3) := dw_180 wX10_either_c 1 9 rfl rfl
theorem dX10_either_61 : decode cX10_either 61 = .ok (.iload_n 3, 1) := dw_29 wX10_either_c rfl
theorem dX10_either_62 : decode cX10_either 62 = .ok (.iastore, 1) := dw_79 wX10_either_c rfl
theorem dX10_either_63 : decode cX10_either 63 = .ok (.aload_n 0, 1) := dw_42 wX10_either_c rfl
theorem dX10_either_64 : decode cX10_either 64 = .ok (.dup, 1) := dw_89 wX10_either_c rfl
theorem dX10_either_65 : decode cX10_either 65 = .ok (.getfield 265, 3) := dw_180 wX10_either_c 1 9 rfl rfl
theorem dX10_either_68 : decode cX10_either 68 = .ok (.iconst 1, 1) := dw_4 wX10_either_c rfl
theorem dX10_either_69 : decode cX10_either 69 = .ok (.iadd, 1) := dw_96 wX10_either_c rfl
theorem dX10_either_70 : decode cX10_either 70 = .ok (.putfield 265, 3) := dw_181 wX10_either_c 1 9 rfl rfl
theorem dX10_either_73 : decode cX10_either 73 = .ok (.aload_n 0, 1) := dw_42 wX10_either_c rfl
theorem dX10_either_74 : decode cX10_either 74 = .ok (.dup, 1) := dw_89 wX10_either_c rfl
theorem dX10_either_75 : decode cX10_either 75 = .ok (.getfield 245, 3) := dw_180 wX10_either_c 0 245 rfl rfl
theorem dX10_either_78 : decode cX10_either 78 = .ok (.aload_n 0, 1) := dw_42 wX10_either_c rfl
theorem dX10_either_79 : decode cX10_either 79 = .ok (.getfield 252, 3) := dw_180 wX10_either_c 0 252 rfl rfl
theorem dX10_either_82 : decode cX10_either 82 = .ok (.iadd, 1) := dw_96 wX10_either_c rfl
theorem dX10_either_83 : decode cX10_either 83 = .ok (.putfield 245, 3) := dw_181 wX10_either_c 0 245 rfl rfl
theorem dX10_either_86 : decode cX10_either 86 = .ok (.iconst 1, 1) := dw_4 wX10_either_c rfl
theorem dX10_either_87 : decode cX10_either 87 = .ok (.istore_n 1, 1) := dw_60 wX10_either_c rfl
theorem dX10_either_88 : decode cX10_either 88 = .ok (.goto 88, 3) := dw_167 wX10_either_c 0 88 rfl rfl rfl
theorem dX10_either_91 : decode cX10_either 91 = .ok (.iload_n 2, 1) := dw_28 wX10_either_c rfl
theorem dX10_either_92 : decode cX10_either 92 = .ok (.bipush 41, 2) := dw_16 wX10_either_c 41 rfl rfl rfl
theorem dX10_either_94 : decode cX10_either 94 = .ok (.if_icmp .ne 52, 3) := dw_160 wX10_either_c 0 52 rfl rfl rfl
theorem dX10_either_97 : decode cX10_either 97 = .ok (.aload_n 0, 1) := dw_42 wX10_either_c rfl
theorem dX10_either_98 : decode cX10_either 98 = .ok (.iconst 0, 1) := dw_3 wX10_either_c rfl
theorem dX10_either_99 : decode cX10_either 99 = .ok (.invokevirtual 303, 3) := dw_182 wX10_either_c 1 47 rfl rfl
theorem dX10_either_102 : decode cX10_either 102 = .ok (.aload_n 0, 1) := dw_42 wX10_either_c rfl
theorem dX10_either_103 : decode cX10_either 103 = .ok (.getfield 265, 3) := dw_180 wX10_either_c 1 9 rfl rfl
theorem dX10_either_106 : decode cX10_either 106 = .ok (.ifCond .ne 13, 3) := dw_154 wX10_either_c 0 13 rfl rfl rfl
theorem dX10_either_109 : decode cX10_either 109 = .ok (.aload_n 0, 1) := dw_42 wX10_either_c rfl
theorem dX10_either_110 : decode cX10_either 110 = .ok (.iconst 0, 1) := dw_3 wX10_either_c rfl
theorem dX10_either_111 : decode cX10_either 111 = .ok (.aload_n 0, 1) := dw_42 wX10_either_c rfl
theorem dX10_either_112 : decode cX10_either 112 = .ok (.getfield 245, 3) := dw_180 wX10_either_c 0 245 rfl rfl
theorem dX10_either_115 : decode cX10_either 115 = .ok (.invokevirtual 255, 3) := dw_182 wX10_either_c 0 255 rfl rfl
theorem dX10_either_118 : decode cX10_either 118 = .ok (.ireturn, 1) := dw_172 wX10_either_c rfl
theorem dX10_either_119 : decode cX10_either 119 = .ok (.aload_n 0, 1) := dw_42 wX10_either_c rfl
theorem dX10_either_120 : decode cX10_either 120 = .ok (.dup, 1) := dw_89 wX10_either_c rfl
theorem dX10_either_121 : decode cX10_either 121 = .ok (.getfield 265, 3) := dw_180 wX10_either_c 1 9 rfl rfl
theorem dX10_either_124 : decode cX10_either 124 = .ok (.iconst 1, 1) := dw_4 wX10_either_c rfl
theorem dX10_either_125 : decode cX10_either 125 = .ok (.isub, 1) := dw_100 wX10_either_c rfl
theorem dX10_either_126 : decode cX10_either 126 = .ok (.putfield 265, 3) := dw_181 wX10_either_c 1 9 rfl rfl
theorem dX10_either_129 : decode cX10_either 129 = .ok (.aload_n 0, 1) := dw_42 wX10_either_c rfl
theorem dX10_either_130 : decode cX10_either 130 = .ok (.dup, 1) := dw_89 wX10_either_c rfl
theorem dX10_either_131 : decode cX10_either 131 = .ok (.getfield 245, 3) := dw_180 wX10_either_c 0 245 rfl rfl
theorem dX10_either_134 : decode cX10_either 134 = .ok (.iconst 1, 1) := dw_4 wX10_either_c rfl
theorem dX10_either_135 : decode cX10_either 135 = .ok (.iadd, 1) := dw_96 wX10_either_c rfl
theorem dX10_either_136 : decode cX10_either 136 = .ok (.putfield 245, 3) := dw_181 wX10_either_c 0 245 rfl rfl
theorem dX10_either_139 : decode cX10_either 139 = .ok (.aload_n 0, 1) := dw_42 wX10_either_c rfl
theorem dX10_either_140 : decode cX10_either 140 = .ok (.invokevirtual 300, 3) := dw_182 wX10_either_c 1 44 rfl rfl
theorem dX10_either_143 : decode cX10_either 143 = .ok (.goto 33, 3) := dw_167 wX10_either_c 0 33 rfl rfl rfl
theorem dX10_either_146 : decode cX10_either 146 = .ok (.aload_n 0, 1) := dw_42 wX10_either_c rfl
theorem dX10_either_147 : decode cX10_either 147 = .ok (.iconst 0, 1) := dw_3 wX10_either_c rfl
theorem dX10_either_148 : decode cX10_either 148 = .ok (.invokevirtual 303, 3) := dw_182 wX10_either_c 1 47 rfl rfl
theorem dX10_either_151 : decode cX10_either 151 = .ok (.aload_n 0, 1) := dw_42 wX10_either_c rfl
theorem dX10_either_152 : decode cX10_either 152 = .ok (.getfield 265, 3) := dw_180 wX10_either_c 1 9 rfl rfl
theorem dX10_either_155 : decode cX10_either 155 = .ok (.ifCond .eq 15, 3) := dw_153 wX10_either_c 0 15 rfl rfl rfl
theorem dX10_either_158 : decode cX10_either 158 = .ok (.aload_n 0, 1) := dw_42 wX10_either_c rfl
theorem dX10_either_159 : decode cX10_either 159 = .ok (.iconst 0, 1) := dw_3 wX10_either_c rfl
theorem dX10_either_160 : decode cX10_either 160 = .ok (.aload_n 0, 1) := dw_42 wX10_either_c rfl
theorem dX10_either_161 : decode cX10_either 161 = .ok (.getfield 245, 3) := dw_180 wX10_either_c 0 245 rfl rfl
theorem dX10_either_164 : decode cX10_either 164 = .ok (.invokevirtual 255, 3) := dw_182 wX10_either_c 0 255 rfl rfl
theorem dX10_either_167 : decode cX10_either 167 = .ok (.ifCond .eq 7, 3) := dw_153 wX10_either_c 0 7 rfl rfl rfl
theorem dX10_either_170 : decode cX10_either 170 = .ok (.iconst 1, 1) := dw_4 wX10_either_c rfl
theorem dX10_either_171 : decode cX10_either 171 = .ok (.goto 4, 3) := dw_167 wX10_either_c 0 4 rfl rfl rfl
theorem dX10_either_174 : decode cX10_either 174 = .ok (.iconst 0, 1) := dw_3 wX10_either_c rfl
theorem dX10_either_175 : decode cX10_either 175 = .ok (.ireturn, 1) := dw_172 wX10_either_c rfl
theorem dX10_either_176 : decode cX10_either 176 = .ok (.goto (-170), 3) := dn_167 wX10_either_c 255 86 rfl (by decide)