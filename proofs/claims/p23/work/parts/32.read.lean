def wNX6_readTerm : Nat := 213425403719781100055196544882286032058658247907938099781742783601855298138122085045488385252777769628700482326364959752777450787625977756088164618594421433736354753600695602704190151199287014304357341502148401972285814643625066873285847828402767418234640106884887239747136922628605163741140980048332549072006147947561313303131563090858048004056238061466547546319429708991869007402
theorem wX6_readTerm_c : hz_cd cX6_readTerm wNX6_readTerm 158 := ⟨by decide +kernel, by decide +kernel⟩
theorem dX6_readTerm_0 : decode cX6_readTerm 0 = .ok (.aload_n 0, 1) := dw_42 wX6_readTerm_c rfl
theorem dX6_readTerm_1 : decode cX6_readTerm 1 = .ok (.invokevirtual 35, 3) := dw_182 wX6_readTerm_c 0 35 rfl rfl
theorem dX6_readTerm_4 : decode cX6_readTerm 4 = .ok (.aload_n 0, 1) := dw_42 wX6_readTerm_c rfl
theorem dX6_readTerm_5 : decode cX6_readTerm 5 = .ok (.getfield 19, 3) := dw_180 wX6_readTerm_c 0 19 rfl rfl
theorem dX6_readTerm_8 : decode cX6_readTerm 8 = .ok (.istore_n 1, 1) := dw_60 wX6_readTerm_c rfl
theorem dX6_readTerm_9 : decode cX6_readTerm 9 = .ok (.aload_n 0, 1) := dw_42 wX6_readTerm_c rfl
theorem dX6_readTerm_10 : decode cX6_readTerm 10 = .ok (.ldc 116, 2) := dw_18 wX6_readTerm_c 116 rfl
theorem dX6_readTerm_12 : decode cX6_readTerm 12 = .ok (.invokevirtual 51, 3) := dw_182 wX6_readTerm_c 0 51 rfl rfl
theorem dX6_readTerm_15 : decode cX6_readTerm 15 = .ok (.istore_n 2, 1) := dw_61 wX6_readTerm_c rfl
theorem dX6_readTerm_16 : decode cX6_readTerm 16 = .ok (.iload_n 2, 1) := dw_28 wX6_readTerm_c rfl
theorem dX6_readTerm_17 : decode cX6_readTerm 17 = .ok (.ifCond .ge 10, 3) := dw_156 wX6_readTerm_c 0 10 rfl rfl rfl
theorem dX6_readTerm_20 : decode cX6_readTerm 20 = .ok (.aload_n 0, 1) := dw_42 wX6_readTerm_c rfl
theorem dX6_readTerm_21 : decode cX6_readTerm 21 = .ok (.iload_n 1, 1) := dw_27 wX6_readTerm_c rfl
theorem dX6_readTerm_22 : decode cX6_readTerm 22 = .ok (.iconst 0, 1) := dw_3 wX6_readTerm_c rfl
theorem dX6_readTerm_23 : decode cX6_readTerm 23 = .ok (.invokevirtual 45, 3) := dw_182 wX6_readTerm_c 0 45 rfl rfl
theorem dX6_readTerm_26 : decode cX6_readTerm 26 = .ok (.ireturn, 1) := dw_172 wX6_readTerm_c rfl
theorem dX6_readTerm_27 : decode cX6_readTerm 27 = .ok (.aload_n 0, 1) := dw_42 wX6_readTerm_c rfl
theorem dX6_readTerm_28 : decode cX6_readTerm 28 = .ok (.getfield 28, 3) := dw_180 wX6_readTerm_c 0 28 rfl rfl
theorem dX6_readTerm_31 : decode cX6_readTerm 31 = .ok (.bipush 20, 2) := dw_16 wX6_readTerm_c 20 rfl rfl rfl
theorem dX6_readTerm_33 : decode cX6_readTerm 33 = .ok (.if_icmp .lt 10, 3) := dw_161 wX6_readTerm_c 0 10 rfl rfl rfl
theorem dX6_readTerm_36 : decode cX6_readTerm 36 = .ok (.aload_n 0, 1) := dw_42 wX6_readTerm_c rfl
theorem dX6_readTerm_37 : decode cX6_readTerm 37 = .ok (.iload_n 1, 1) := dw_27 wX6_readTerm_c rfl
theorem dX6_readTerm_38 : decode cX6_readTerm 38 = .ok (.iconst 4, 1) := dw_7 wX6_readTerm_c rfl
theorem dX6_readTerm_39 : decode cX6_readTerm 39 = .ok (.invokevirtual 45, 3) := dw_182 wX6_readTerm_c 0 45 rfl rfl
theorem dX6_readTerm_42 : decode cX6_readTerm 42 = .ok (.ireturn, 1) := dw_172 wX6_readTerm_c rfl
theorem dX6_readTerm_43 : decode cX6_readTerm 43 = .ok (.aload_n 0, 1) := dw_42 wX6_readTerm_c rfl
theorem dX6_readTerm_44 : decode cX6_readTerm 44 = .ok (.dup, 1) := dw_89 wX6_readTerm_c rfl
theorem dX6_readTerm_45 : decode cX6_readTerm 45 = .ok (.getfield 28, 3) := dw_180 wX6_readTerm_c 0 28 rfl rfl
theorem dX6_readTerm_48 : decode cX6_readTerm 48 = .ok (.iconst 1, 1) := dw_4 wX6_readTerm_c rfl
theorem dX6_readTerm_49 : decode cX6_readTerm 49 = .ok (.iadd, 1) := dw_96 wX6_readTerm_c rfl
theorem dX6_readTerm_50 : decode cX6_readTerm 50 = .ok (.putfield 28, 3) := dw_181 wX6_readTerm_c 0 28 rfl rfl
theorem dX6_readTerm_53 : decode cX6_readTerm 53 = .ok (.aload_n 0, 1) := dw_42 wX6_readTerm_c rfl
theorem dX6_readTerm_54 : decode cX6_readTerm 54 = .ok (.invokevirtual 118, 3) := dw_182 wX6_readTerm_c 0 118 rfl rfl
theorem dX6_readTerm_57 : decode cX6_readTerm 57 = .ok (.istore_n 3, 1) := dw_62 wX6_readTerm_c rfl
theorem dX6_readTerm_58 : decode cX6_readTerm 58 = .ok (.iload_n 3, 1) := dw_29 wX6_readTerm_c rfl
theorem dX6_readTerm_59 : decode cX6_readTerm 59 = .ok (.ifCond .ne 13, 3) := dw_154 wX6_readTerm_c 0 13 rfl rfl rfl
theorem dX6_readTerm_62 : decode cX6_readTerm 62 = .ok (.aload_n 0, 1) := dw_42 wX6_readTerm_c rfl
theorem dX6_readTerm_63 : decode cX6_readTerm 63 = .ok (.aload_n 0, 1) := dw_42 wX6_readTerm_c rfl
theorem dX6_readTerm_64 : decode cX6_readTerm 64 = .ok (.getfield 19, 3) := dw_180 wX6_readTerm_c 0 19 rfl rfl
theorem dX6_readTerm_67 : decode cX6_readTerm 67 = .ok (.iconst 0, 1) := dw_3 wX6_readTerm_c rfl
theorem dX6_readTerm_68 : decode cX6_readTerm 68 = .ok (.invokevirtual 45, 3) := dw_182 wX6_readTerm_c 0 45 rfl rfl
theorem dX6_readTerm_71 : decode cX6_readTerm 71 = .ok (.ireturn, 1) := dw_172 wX6_readTerm_c rfl
theorem dX6_readTerm_72 : decode cX6_readTerm 72 = .ok (.aload_n 0, 1) := dw_42 wX6_readTerm_c rfl
theorem dX6_readTerm_73 : decode cX6_readTerm 73 = .ok (.invokevirtual 35, 3) := dw_182 wX6_readTerm_c 0 35 rfl rfl
theorem dX6_readTerm_76 : decode cX6_readTerm 76 = .ok (.aload_n 0, 1) := dw_42 wX6_readTerm_c rfl
theorem dX6_readTerm_77 : decode cX6_readTerm 77 = .ok (.getfield 19, 3) := dw_180 wX6_readTerm_c 0 19 rfl rfl
theorem dX6_readTerm_80 : decode cX6_readTerm 80 = .ok (.istore_n 1, 1) := dw_60 wX6_readTerm_c rfl
theorem dX6_readTerm_81 : decode cX6_readTerm 81 = .ok (.aload_n 0, 1) := dw_42 wX6_readTerm_c rfl
theorem dX6_readTerm_82 : decode cX6_readTerm 82 = .ok (.aload_n 0, 1) := dw_42 wX6_readTerm_c rfl
theorem dX6_readTerm_83 : decode cX6_readTerm 83 = .ok (.getfield 19, 3) := dw_180 wX6_readTerm_c 0 19 rfl rfl
theorem dX6_readTerm_86 : decode cX6_readTerm 86 = .ok (.invokevirtual 75, 3) := dw_182 wX6_readTerm_c 0 75 rfl rfl
theorem dX6_readTerm_89 : decode cX6_readTerm 89 = .ok (.ifCond .ne 7, 3) := dw_154 wX6_readTerm_c 0 7 rfl rfl rfl
theorem dX6_readTerm_92 : decode cX6_readTerm 92 = .ok (.iconst 1, 1) := dw_4 wX6_readTerm_c rfl
theorem dX6_readTerm_93 : decode cX6_readTerm 93 = .ok (.goto 4, 3) := dw_167 wX6_readTerm_c 0 4 rfl rfl rfl
theorem dX6_readTerm_96 : decode cX6_readTerm 96 = .ok (.iconst 0, 1) := dw_3 wX6_readTerm_c rfl
theorem dX6_readTerm_97 : decode cX6_readTerm 97 = .ok (.istore 4, 2) := dw_54 wX6_readTerm_c 4 rfl
theorem dX6_readTerm_99 : decode cX6_readTerm 99 = .ok (.iload 4, 2) := dw_21 wX6_readTerm_c 4 rfl
theorem dX6_readTerm_101 : decode cX6_readTerm 101 = .ok (.ifCond .eq 12, 3) := dw_153 wX6_readTerm_c 0 12 rfl rfl rfl
theorem dX6_readTerm_104 : decode cX6_readTerm 104 = .ok (.aload_n 0, 1) := dw_42 wX6_readTerm_c rfl
theorem dX6_readTerm_105 : decode cX6_readTerm 105 = .ok (.ldc 116, 2) := dw_18 wX6_readTerm_c 116 rfl
theorem dX6_readTerm_107 : decode cX6_readTerm 107 = .ok (.invokevirtual 51, 3) := dw_182 wX6_readTerm_c 0 51 rfl rfl
theorem dX6_readTerm_110 : decode cX6_readTerm 110 = .ok (.goto 7, 3) := dw_167 wX6_readTerm_c 0 7 rfl rfl rfl
theorem dX6_readTerm_113 : decode cX6_readTerm 113 = .ok (.aload_n 0, 1) := dw_42 wX6_readTerm_c rfl
theorem dX6_readTerm_114 : decode cX6_readTerm 114 = .ok (.invokevirtual 78, 3) := dw_182 wX6_readTerm_c 0 78 rfl rfl
theorem dX6_readTerm_117 : decode cX6_readTerm 117 = .ok (.istore 5, 2) := dw_54 wX6_readTerm_c 5 rfl
theorem dX6_readTerm_119 : decode cX6_readTerm 119 = .ok (.iload 5, 2) := dw_21 wX6_readTerm_c 5 rfl
theorem dX6_readTerm_121 : decode cX6_readTerm 121 = .ok (.ifCond .ge 19, 3) := dw_156 wX6_readTerm_c 0 19 rfl rfl rfl
theorem dX6_readTerm_124 : decode cX6_readTerm 124 = .ok (.aload_n 0, 1) := dw_42 wX6_readTerm_c rfl
theorem dX6_readTerm_125 : decode cX6_readTerm 125 = .ok (.iload_n 1, 1) := dw_27 wX6_readTerm_c rfl
theorem dX6_readTerm_126 : decode cX6_readTerm 126 = .ok (.iload 4, 2) := dw_21 wX6_readTerm_c 4 rfl
theorem dX6_readTerm_128 : decode cX6_readTerm 128 = .ok (.ifCond .eq 7, 3) := dw_153 wX6_readTerm_c 0 7 rfl rfl rfl
theorem dX6_readTerm_131 : decode cX6_readTerm 131 = .ok (.iconst 0, 1) := dw_3 wX6_readTerm_c rfl
theorem dX6_readTerm_132 : decode cX6_readTerm 132 = .ok (.goto 4, 3) := dw_167 wX6_readTerm_c 0 4 rfl rfl rfl
theorem dX6_readTerm_135 : decode cX6_readTerm 135 = .ok (.iconst 1, 1) := dw_4 wX6_readTerm_c rfl
theorem dX6_readTerm_136 : decode cX6_readTerm 136 = .ok (.invokevirtual 45, 3) := dw_182 wX6_readTerm_c 0 45 rfl rfl
theorem dX6_readTerm_139 : decode cX6_readTerm 139 = .ok (.ireturn, 1) := dw_172 wX6_readTerm_c rfl
theorem dX6_readTerm_140 : decode cX6_readTerm 140 = .ok (.aload_n 0, 1) := dw_42 wX6_readTerm_c rfl
theorem dX6_readTerm_141 : decode cX6_readTerm 141 = .ok (.getfield 31, 3) := dw_180 wX6_readTerm_c 0 31 rfl rfl
theorem dX6_readTerm_144 : decode cX6_readTerm 144 = .ok (.iload_n 2, 1) := dw_28 wX6_readTerm_c rfl
theorem dX6_readTerm_145 : decode cX6_readTerm 145 = .ok (.iload_n 3, 1) := dw_29 wX6_readTerm_c rfl
theorem dX6_readTerm_146 : decode cX6_readTerm 146 = .ok (.iload 4, 2) := dw_21 wX6_readTerm_c 4 rfl
theorem dX6_readTerm_148 : decode cX6_readTerm 148 = .ok (.iload 5, 2) := dw_21 wX6_readTerm_c 5 rfl
theorem dX6_readTerm_150 : decode cX6_readTerm 150 = .ok (.invokestatic 121, 3) := dw_184 wX6_readTerm_c 0 121 rfl rfl
theorem dX6_readTerm_153 : decode cX6_readTerm 153 = .ok (.invokevirtual 95, 3) := dw_182 wX6_readTerm_c 0 95 rfl rfl
theorem dX6_readTerm_156 : decode cX6_readTerm 156 = .ok (.iconst 1, 1) := dw_4 wX6_readTerm_c rfl
theorem dX6_readTerm_157 : decode cX6_readTerm 157 = .ok (.ireturn, 1) := dw_172 wX6_readTerm_c rfl
def wNX6_readOne : Nat := 8704102198116306194204756392806366405880104796024798474346443869031010114534190665068935251902548257161231180962834947920090427530089052440901374076326133141474087787004120754731352402214501342227359134907818166087557665355165021471656922280769928032942891896457756183818505396550790342124034767782079335377372143135444636202
theorem wX6_readOne_c : hz_cd cX6_readOne wNX6_readOne 135 := ⟨by decide +kernel, by decide +kernel⟩
theorem dX6_readOne_0 : decode cX6_readOne 0 = .ok (.aload_n 0, 1) := dw_42 wX6_readOne_c rfl
theorem dX6_readOne_1 : decode cX6_readOne 1 = .ok (.ldc 107, 2) := dw_18 wX6_readOne_c 107 rfl
theorem dX6_readOne_3 : decode cX6_readOne 3 = .ok (.invokevirtual 101, 3) := dw_182 wX6_readOne_c 0 101 rfl rfl
theorem dX6_readOne_6 : decode cX6_readOne 6 = .ok (.istore_n 2, 1) := dw_61 wX6_readOne_c rfl
theorem dX6_readOne_7 : decode cX6_readOne 7 = .ok (.iload_n 2, 1) := dw_28 wX6_readOne_c rfl
theorem dX6_readOne_8 : decode cX6_readOne 8 = .ok (.ifCond .ne 17, 3) := dw_154 wX6_readOne_c 0 17 rfl rfl rfl
theorem dX6_readOne_11 : decode cX6_readOne 11 = .ok (.aload_n 0, 1) := dw_42 wX6_readOne_c rfl
theorem dX6_readOne_12 : decode cX6_readOne 12 = .ok (.bipush 40, 2) := dw_16 wX6_readOne_c 40 rfl rfl rfl
theorem dX6_readOne_14 : decode cX6_readOne 14 = .ok (.invokevirtual 109, 3) := dw_182 wX6_readOne_c 0 109 rfl rfl
theorem dX6_readOne_17 : decode cX6_readOne 17 = .ok (.ifCond .ne 8, 3) := dw_154 wX6_readOne_c 0 8 rfl rfl rfl
theorem dX6_readOne_20 : decode cX6_readOne 20 = .ok (.aload_n 0, 1) := dw_42 wX6_readOne_c rfl
theorem dX6_readOne_21 : decode cX6_readOne 21 = .ok (.invokevirtual 113, 3) := dw_182 wX6_readOne_c 0 113 rfl rfl
theorem dX6_readOne_24 : decode cX6_readOne 24 = .ok (.ireturn, 1) := dw_172 wX6_readOne_c rfl
theorem dX6_readOne_25 : decode cX6_readOne 25 = .ok (.iload_n 1, 1) := dw_27 wX6_readOne_c rfl
theorem dX6_readOne_26 : decode cX6_readOne 26 = .ok (.bipush 8, 2) := dw_16 wX6_readOne_c 8 rfl rfl rfl
theorem dX6_readOne_28 : decode cX6_readOne 28 = .ok (.if_icmp .lt 13, 3) := dw_161 wX6_readOne_c 0 13 rfl rfl rfl
theorem dX6_readOne_31 : decode cX6_readOne 31 = .ok (.aload_n 0, 1) := dw_42 wX6_readOne_c rfl
theorem dX6_readOne_32 : decode cX6_readOne 32 = .ok (.aload_n 0, 1) := dw_42 wX6_readOne_c rfl
theorem dX6_readOne_33 : decode cX6_readOne 33 = .ok (.getfield 19, 3) := dw_180 wX6_readOne_c 0 19 rfl rfl
theorem dX6_readOne_36 : decode cX6_readOne 36 = .ok (.iconst 3, 1) := dw_6 wX6_readOne_c rfl
theorem dX6_readOne_37 : decode cX6_readOne 37 = .ok (.invokevirtual 45, 3) := dw_182 wX6_readOne_c 0 45 rfl rfl
theorem dX6_readOne_40 : decode cX6_readOne 40 = .ok (.ireturn, 1) := dw_172 wX6_readOne_c rfl
def wNX6_readEither : Nat := 19243356209818555694623493497406494607021188450542253946289283560243664764458820663131790180325936002078267659700710074025209609952091063405851788219622752155128167384371072891909134549462010049066667909550792171818761805075093935268497741351294811395
theorem wX6_readEither_c : hz_cd cX6_readEither wNX6_readEither 104 := ⟨by decide +kernel, by decide +kernel⟩
theorem dX6_readEither_0 : decode cX6_readEither 0 = .ok (.iconst 0, 1) := dw_3 wX6_readEither_c rfl
theorem dX6_readEither_1 : decode cX6_readEither 1 = .ok (.istore_n 2, 1) := dw_61 wX6_readEither_c rfl
theorem dX6_readEither_2 : decode cX6_readEither 2 = .ok (.iconst 0, 1) := dw_3 wX6_readEither_c rfl
theorem dX6_readEither_3 : decode cX6_readEither 3 = .ok (.istore_n 3, 1) := dw_62 wX6_readEither_c rfl
theorem dX6_readEither_4 : decode cX6_readEither 4 = .ok (.iconst 0, 1) := dw_3 wX6_readEither_c rfl
theorem dX6_readEither_5 : decode cX6_readEither 5 = .ok (.istore 4, 2) := dw_54 wX6_readEither_c 4 rfl
theorem dX6_readEither_7 : decode cX6_readEither 7 = .ok (.iload 4, 2) := dw_21 wX6_readEither_c 4 rfl
theorem dX6_readEither_9 : decode cX6_readEither 9 = .ok (.aload_n 0, 1) := dw_42 wX6_readEither_c rfl
theorem dX6_readEither_10 : decode cX6_readEither 10 = .ok (.getfield 15, 3) := dw_180 wX6_readEither_c 0 15 rfl rfl
theorem dX6_readEither_13 : decode cX6_readEither 13 = .ok (.if_icmp .gt 89, 3) := dw_163 wX6_readEither_c 0 89 rfl rfl rfl
theorem dX6_readEither_16 : decode cX6_readEither 16 = .ok (.aload_n 0, 1) := dw_42 wX6_readEither_c rfl
theorem dX6_readEither_17 : decode cX6_readEither 17 = .ok (.iload_n 1, 1) := dw_27 wX6_readEither_c rfl
theorem dX6_readEither_18 : decode cX6_readEither 18 = .ok (.invokevirtual 92, 3) := dw_182 wX6_readEither_c 0 92 rfl rfl
theorem dX6_readEither_21 : decode cX6_readEither 21 = .ok (.ifCond .eq 81, 3) := dw_153 wX6_readEither_c 0 81 rfl rfl rfl
theorem dX6_readEither_24 : decode cX6_readEither 24 = .ok (.iload_n 2, 1) := dw_28 wX6_readEither_c rfl
theorem dX6_readEither_25 : decode cX6_readEither 25 = .ok (.ifCond .eq 11, 3) := dw_153 wX6_readEither_c 0 11 rfl rfl rfl
theorem dX6_readEither_28 : decode cX6_readEither 28 = .ok (.aload_n 0, 1) := dw_42 wX6_readEither_c rfl
theorem dX6_readEither_29 : decode cX6_readEither 29 = .ok (.getfield 31, 3) := dw_180 wX6_readEither_c 0 31 rfl rfl
theorem dX6_readEither_32 : decode cX6_readEither 32 = .ok (.iconst (-1), 1) := dw_2 wX6_readEither_c rfl
theorem dX6_readEither_33 : decode cX6_readEither 33 = .ok (.invokevirtual 95, 3) := dw_182 wX6_readEither_c 0 95 rfl rfl
theorem dX6_readEither_36 : decode cX6_readEither 36 = .ok (.aload_n 0, 1) := dw_42 wX6_readEither_c rfl
theorem dX6_readEither_37 : decode cX6_readEither 37 = .ok (.ldc 99, 2) := dw_18 wX6_readEither_c 99 rfl
theorem dX6_readEither_39 : decode cX6_readEither 39 = .ok (.invokevirtual 101, 3) := dw_182 wX6_readEither_c 0 101 rfl rfl
theorem dX6_readEither_42 : decode cX6_readEither 42 = .ok (.istore_n 2, 1) := dw_61 wX6_readEither_c rfl
theorem dX6_readEither_43 : decode cX6_readEither 43 = .ok (.iload_n 2, 1) := dw_28 wX6_readEither_c rfl
theorem dX6_readEither_44 : decode cX6_readEither 44 = .ok (.ifCond .eq 16, 3) := dw_153 wX6_readEither_c 0 16 rfl rfl rfl
theorem dX6_readEither_47 : decode cX6_readEither 47 = .ok (.aload_n 0, 1) := dw_42 wX6_readEither_c rfl
theorem dX6_readEither_48 : decode cX6_readEither 48 = .ok (.dup, 1) := dw_89 wX6_readEither_c rfl
theorem dX6_readEither_49 : decode cX6_readEither 49 = .ok (.getfield 19, 3) := dw_180 wX6_readEither_c 0 19 rfl rfl
theorem dX6_readEither_52 : decode cX6_readEither 52 = .ok (.iconst 3, 1) := dw_6 wX6_readEither_c rfl
theorem dX6_readEither_53 : decode cX6_readEither 53 = .ok (.iadd, 1) := dw_96 wX6_readEither_c rfl
theorem dX6_readEither_54 : decode cX6_readEither 54 = .ok (.putfield 19, 3) := dw_181 wX6_readEither_c 0 19 rfl rfl
theorem dX6_readEither_57 : decode cX6_readEither 57 = .ok (.goto 39, 3) := dw_167 wX6_readEither_c 0 39 rfl rfl rfl
theorem dX6_readEither_60 : decode cX6_readEither 60 = .ok (.iload_n 3, 1) := dw_29 wX6_readEither_c rfl
theorem dX6_readEither_61 : decode cX6_readEither 61 = .ok (.ifCond .eq 12, 3) := dw_153 wX6_readEither_c 0 12 rfl rfl rfl
theorem dX6_readEither_64 : decode cX6_readEither 64 = .ok (.aload_n 0, 1) := dw_42 wX6_readEither_c rfl
theorem dX6_readEither_65 : decode cX6_readEither 65 = .ok (.getfield 31, 3) := dw_180 wX6_readEither_c 0 31 rfl rfl
theorem dX6_readEither_68 : decode cX6_readEither 68 = .ok (.bipush (-2), 2) := dn_16 wX6_readEither_c 254 rfl (by decide)
theorem dX6_readEither_70 : decode cX6_readEither 70 = .ok (.invokevirtual 95, 3) := dw_182 wX6_readEither_c 0 95 rfl rfl
theorem dX6_readEither_73 : decode cX6_readEither 73 = .ok (.aload_n 0, 1) := dw_42 wX6_readEither_c rfl
theorem dX6_readEither_74 : decode cX6_readEither 74 = .ok (.ldc 105, 2) := dw_18 wX6_readEither_c 105 rfl
theorem dX6_readEither_76 : decode cX6_readEither 76 = .ok (.invokevirtual 101, 3) := dw_182 wX6_readEither_c 0 101 rfl rfl
theorem dX6_readEither_79 : decode cX6_readEither 79 = .ok (.istore_n 3, 1) := dw_62 wX6_readEither_c rfl
theorem dX6_readEither_80 : decode cX6_readEither 80 = .ok (.iload_n 3, 1) := dw_29 wX6_readEither_c rfl
theorem dX6_readEither_81 : decode cX6_readEither 81 = .ok (.ifCond .ne 5, 3) := dw_154 wX6_readEither_c 0 5 rfl rfl rfl
theorem dX6_readEither_84 : decode cX6_readEither 84 = .ok (.iconst 1, 1) := dw_4 wX6_readEither_c rfl
theorem dX6_readEither_85 : decode cX6_readEither 85 = .ok (.ireturn, 1) := dw_172 wX6_readEither_c rfl
theorem dX6_readEither_86 : decode cX6_readEither 86 = .ok (.aload_n 0, 1) := dw_42 wX6_readEither_c rfl
theorem dX6_readEither_87 : decode cX6_readEither 87 = .ok (.dup, 1) := dw_89 wX6_readEither_c rfl
theorem dX6_readEither_88 : decode cX6_readEither 88 = .ok (.getfield 19, 3) := dw_180 wX6_readEither_c 0 19 rfl rfl
theorem dX6_readEither_91 : decode cX6_readEither 91 = .ok (.iconst 2, 1) := dw_5 wX6_readEither_c rfl
theorem dX6_readEither_92 : decode cX6_readEither 92 = .ok (.iadd, 1) := dw_96 wX6_readEither_c rfl
theorem dX6_readEither_93 : decode cX6_readEither 93 = .ok (.putfield 19, 3) := dw_181 wX6_readEither_c 0 19 rfl rfl
theorem dX6_readEither_96 : decode cX6_readEither 96 = .ok (.iinc 4 1, 3) := dw_132 wX6_readEither_c 4 1 rfl rfl rfl
theorem dX6_readEither_99 : decode cX6_readEither 99 = .ok (.goto (-92), 3) := dn_167 wX6_readEither_c 255 164 rfl (by decide)
theorem dX6_readEither_102 : decode cX6_readEither 102 = .ok (.iconst 0, 1) := dw_3 wX6_readEither_c rfl
theorem dX6_readEither_103 : decode cX6_readEither 103 = .ok (.ireturn, 1) := dw_172 wX6_readEither_c rfl
theorem dX6_readOne_41 : decode cX6_readOne 41 = .ok (.iload_n 2, 1) := dw_28 wX6_readOne_c rfl
theorem dX6_readOne_42 : decode cX6_readOne 42 = .ok (.ifCond .eq 36, 3) := dw_153 wX6_readOne_c 0 36 rfl rfl rfl
theorem dX6_readOne_45 : decode cX6_readOne 45 = .ok (.aload_n 0, 1) := dw_42 wX6_readOne_c rfl
theorem dX6_readOne_46 : decode cX6_readOne 46 = .ok (.dup, 1) := dw_89 wX6_readOne_c rfl
theorem dX6_readOne_47 : decode cX6_readOne 47 = .ok (.getfield 19, 3) := dw_180 wX6_readOne_c 0 19 rfl rfl
theorem dX6_readOne_50 : decode cX6_readOne 50 = .ok (.iconst 3, 1) := dw_6 wX6_readOne_c rfl
theorem dX6_readOne_51 : decode cX6_readOne 51 = .ok (.iadd, 1) := dw_96 wX6_readOne_c rfl
theorem dX6_readOne_52 : decode cX6_readOne 52 = .ok (.putfield 19, 3) := dw_181 wX6_readOne_c 0 19 rfl rfl
theorem dX6_readOne_55 : decode cX6_readOne 55 = .ok (.aload_n 0, 1) := dw_42 wX6_readOne_c rfl
theorem dX6_readOne_56 : decode cX6_readOne 56 = .ok (.iload_n 1, 1) := dw_27 wX6_readOne_c rfl
theorem dX6_readOne_57 : decode cX6_readOne 57 = .ok (.iconst 1, 1) := dw_4 wX6_readOne_c rfl
theorem dX6_readOne_58 : decode cX6_readOne 58 = .ok (.iadd, 1) := dw_96 wX6_readOne_c rfl
theorem dX6_readOne_59 : decode cX6_readOne 59 = .ok (.invokevirtual 92, 3) := dw_182 wX6_readOne_c 0 92 rfl rfl
theorem dX6_readOne_62 : decode cX6_readOne 62 = .ok (.ifCond .ne 5, 3) := dw_154 wX6_readOne_c 0 5 rfl rfl rfl
theorem dX6_readOne_65 : decode cX6_readOne 65 = .ok (.iconst 0, 1) := dw_3 wX6_readOne_c rfl
theorem dX6_readOne_66 : decode cX6_readOne 66 = .ok (.ireturn, 1) := dw_172 wX6_readOne_c rfl
theorem dX6_readOne_67 : decode cX6_readOne 67 = .ok (.aload_n 0, 1) := dw_42 wX6_readOne_c rfl
theorem dX6_readOne_68 : decode cX6_readOne 68 = .ok (.getfield 31, 3) := dw_180 wX6_readOne_c 0 31 rfl rfl
theorem dX6_readOne_71 : decode cX6_readOne 71 = .ok (.bipush (-3), 2) := dn_16 wX6_readOne_c 253 rfl (by decide)
theorem dX6_readOne_73 : decode cX6_readOne 73 = .ok (.invokevirtual 95, 3) := dw_182 wX6_readOne_c 0 95 rfl rfl
theorem dX6_readOne_76 : decode cX6_readOne 76 = .ok (.iconst 1, 1) := dw_4 wX6_readOne_c rfl
theorem dX6_readOne_77 : decode cX6_readOne 77 = .ok (.ireturn, 1) := dw_172 wX6_readOne_c rfl
theorem dX6_readOne_78 : decode cX6_readOne 78 = .ok (.aload_n 0, 1) := dw_42 wX6_readOne_c rfl
theorem dX6_readOne_79 : decode cX6_readOne 79 = .ok (.dup, 1) := dw_89 wX6_readOne_c rfl
theorem dX6_readOne_80 : decode cX6_readOne 80 = .ok (.getfield 19, 3) := dw_180 wX6_readOne_c 0 19 rfl rfl
theorem dX6_readOne_83 : decode cX6_readOne 83 = .ok (.iconst 1, 1) := dw_4 wX6_readOne_c rfl
theorem dX6_readOne_84 : decode cX6_readOne 84 = .ok (.iadd, 1) := dw_96 wX6_readOne_c rfl
theorem dX6_readOne_85 : decode cX6_readOne 85 = .ok (.putfield 19, 3) := dw_181 wX6_readOne_c 0 19 rfl rfl
theorem dX6_readOne_88 : decode cX6_readOne 88 = .ok (.aload_n 0, 1) := dw_42 wX6_readOne_c rfl
theorem dX6_readOne_89 : decode cX6_readOne 89 = .ok (.iload_n 1, 1) := dw_27 wX6_readOne_c rfl
theorem dX6_readOne_90 : decode cX6_readOne 90 = .ok (.iconst 1, 1) := dw_4 wX6_readOne_c rfl
theorem dX6_readOne_91 : decode cX6_readOne 91 = .ok (.iadd, 1) := dw_96 wX6_readOne_c rfl
theorem dX6_readOne_92 : decode cX6_readOne 92 = .ok (.invokevirtual 66, 3) := dw_182 wX6_readOne_c 0 66 rfl rfl
theorem dX6_readOne_95 : decode cX6_readOne 95 = .ok (.ifCond .ne 5, 3) := dw_154 wX6_readOne_c 0 5 rfl rfl rfl
theorem dX6_readOne_98 : decode cX6_readOne 98 = .ok (.iconst 0, 1) := dw_3 wX6_readOne_c rfl
theorem dX6_readOne_99 : decode cX6_readOne 99 = .ok (.ireturn, 1) := dw_172 wX6_readOne_c rfl
theorem dX6_readOne_100 : decode cX6_readOne 100 = .ok (.aload_n 0, 1) := dw_42 wX6_readOne_c rfl
theorem dX6_readOne_101 : decode cX6_readOne 101 = .ok (.invokevirtual 35, 3) := dw_182 wX6_readOne_c 0 35 rfl rfl
theorem dX6_readOne_104 : decode cX6_readOne 104 = .ok (.aload_n 0, 1) := dw_42 wX6_readOne_c rfl
theorem dX6_readOne_105 : decode cX6_readOne 105 = .ok (.bipush 41, 2) := dw_16 wX6_readOne_c 41 rfl rfl rfl
theorem dX6_readOne_107 : decode cX6_readOne 107 = .ok (.invokevirtual 109, 3) := dw_182 wX6_readOne_c 0 109 rfl rfl
theorem dX6_readOne_110 : decode cX6_readOne 110 = .ok (.ifCond .ne 13, 3) := dw_154 wX6_readOne_c 0 13 rfl rfl rfl
theorem dX6_readOne_113 : decode cX6_readOne 113 = .ok (.aload_n 0, 1) := dw_42 wX6_readOne_c rfl
theorem dX6_readOne_114 : decode cX6_readOne 114 = .ok (.aload_n 0, 1) := dw_42 wX6_readOne_c rfl
theorem dX6_readOne_115 : decode cX6_readOne 115 = .ok (.getfield 19, 3) := dw_180 wX6_readOne_c 0 19 rfl rfl
theorem dX6_readOne_118 : decode cX6_readOne 118 = .ok (.iconst 0, 1) := dw_3 wX6_readOne_c rfl
theorem dX6_readOne_119 : decode cX6_readOne 119 = .ok (.invokevirtual 45, 3) := dw_182 wX6_readOne_c 0 45 rfl rfl
theorem dX6_readOne_122 : decode cX6_readOne 122 = .ok (.ireturn, 1) := dw_172 wX6_readOne_c rfl
theorem dX6_readOne_123 : decode cX6_readOne 123 = .ok (.aload_n 0, 1) := dw_42 wX6_readOne_c rfl
theorem dX6_readOne_124 : decode cX6_readOne 124 = .ok (.dup, 1) := dw_89 wX6_readOne_c rfl
theorem dX6_readOne_125 : decode cX6_readOne 125 = .ok (.getfield 19, 3) := dw_180 wX6_readOne_c 0 19 rfl rfl
theorem dX6_readOne_128 : decode cX6_readOne 128 = .ok (.iconst 1, 1) := dw_4 wX6_readOne_c rfl
theorem dX6_readOne_129 : decode cX6_readOne 129 = .ok (.iadd, 1) := dw_96 wX6_readOne_c rfl
theorem dX6_readOne_130 : decode cX6_readOne 130 = .ok (.putfield 19, 3) := dw_181 wX6_readOne_c 0 19 rfl rfl
theorem dX6_readOne_133 : decode cX6_readOne 133 = .ok (.iconst 1, 1) := dw_4 wX6_readOne_c rfl
theorem dX6_readOne_134 : decode cX6_readOne 134 = .ok (.ireturn, 1) := dw_172 wX6_readOne_c rfl