def wNX6_readClause : Nat := 23263457938420194408484441113638802866802896312301805885510208170616052205260356433713364424907615405152806716297273594954419730409444914714581887091532567611014200213531448075414410411913476283595083592779114687056169530304715186221427629237602661567955695474992090152220202
theorem wX6_readClause_c : hz_cd cX6_readClause wNX6_readClause 114 := ⟨by decide +kernel, by decide +kernel⟩
theorem dX6_readClause_0 : decode cX6_readClause 0 = .ok (.aload_n 0, 1) := dw_42 wX6_readClause_c rfl
theorem dX6_readClause_1 : decode cX6_readClause 1 = .ok (.invokevirtual 35, 3) := dw_182 wX6_readClause_c 0 35 rfl rfl
theorem dX6_readClause_4 : decode cX6_readClause 4 = .ok (.aload_n 0, 1) := dw_42 wX6_readClause_c rfl
theorem dX6_readClause_5 : decode cX6_readClause 5 = .ok (.getfield 19, 3) := dw_180 wX6_readClause_c 0 19 rfl rfl
theorem dX6_readClause_8 : decode cX6_readClause 8 = .ok (.istore_n 1, 1) := dw_60 wX6_readClause_c rfl
theorem dX6_readClause_9 : decode cX6_readClause 9 = .ok (.aload_n 0, 1) := dw_42 wX6_readClause_c rfl
theorem dX6_readClause_10 : decode cX6_readClause 10 = .ok (.ldc 49, 2) := dw_18 wX6_readClause_c 49 rfl
theorem dX6_readClause_12 : decode cX6_readClause 12 = .ok (.invokevirtual 51, 3) := dw_182 wX6_readClause_c 0 51 rfl rfl
theorem dX6_readClause_15 : decode cX6_readClause 15 = .ok (.istore_n 2, 1) := dw_61 wX6_readClause_c rfl
theorem dX6_readClause_16 : decode cX6_readClause 16 = .ok (.iload_n 2, 1) := dw_28 wX6_readClause_c rfl
theorem dX6_readClause_17 : decode cX6_readClause 17 = .ok (.ifCond .ge 10, 3) := dw_156 wX6_readClause_c 0 10 rfl rfl rfl
theorem dX6_readClause_20 : decode cX6_readClause 20 = .ok (.aload_n 0, 1) := dw_42 wX6_readClause_c rfl
theorem dX6_readClause_21 : decode cX6_readClause 21 = .ok (.iload_n 1, 1) := dw_27 wX6_readClause_c rfl
theorem dX6_readClause_22 : decode cX6_readClause 22 = .ok (.iconst 0, 1) := dw_3 wX6_readClause_c rfl
theorem dX6_readClause_23 : decode cX6_readClause 23 = .ok (.invokevirtual 45, 3) := dw_182 wX6_readClause_c 0 45 rfl rfl
theorem dX6_readClause_26 : decode cX6_readClause 26 = .ok (.ireturn, 1) := dw_172 wX6_readClause_c rfl
theorem dX6_readClause_27 : decode cX6_readClause 27 = .ok (.iload_n 2, 1) := dw_28 wX6_readClause_c rfl
theorem dX6_readClause_28 : decode cX6_readClause 28 = .ok (.bipush 10, 2) := dw_16 wX6_readClause_c 10 rfl rfl rfl
theorem dX6_readClause_30 : decode cX6_readClause 30 = .ok (.if_icmp .ne 8, 3) := dw_160 wX6_readClause_c 0 8 rfl rfl rfl
theorem dX6_readClause_33 : decode cX6_readClause 33 = .ok (.aload_n 0, 1) := dw_42 wX6_readClause_c rfl
theorem dX6_readClause_34 : decode cX6_readClause 34 = .ok (.invokevirtual 55, 3) := dw_182 wX6_readClause_c 0 55 rfl rfl
theorem dX6_readClause_37 : decode cX6_readClause 37 = .ok (.ireturn, 1) := dw_172 wX6_readClause_c rfl
theorem dX6_readClause_38 : decode cX6_readClause 38 = .ok (.iload_n 2, 1) := dw_28 wX6_readClause_c rfl
theorem dX6_readClause_39 : decode cX6_readClause 39 = .ok (.bipush 11, 2) := dw_16 wX6_readClause_c 11 rfl rfl rfl
theorem dX6_readClause_41 : decode cX6_readClause 41 = .ok (.if_icmp .ne 35, 3) := dw_160 wX6_readClause_c 0 35 rfl rfl rfl
theorem dX6_readClause_44 : decode cX6_readClause 44 = .ok (.aload_n 0, 1) := dw_42 wX6_readClause_c rfl
theorem dX6_readClause_45 : decode cX6_readClause 45 = .ok (.getfield 31, 3) := dw_180 wX6_readClause_c 0 31 rfl rfl
theorem dX6_readClause_48 : decode cX6_readClause 48 = .ok (.iconst 0, 1) := dw_3 wX6_readClause_c rfl
theorem dX6_readClause_49 : decode cX6_readClause 49 = .ok (.putfield 58, 3) := dw_181 wX6_readClause_c 0 58 rfl rfl
theorem dX6_readClause_52 : decode cX6_readClause 52 = .ok (.aload_n 0, 1) := dw_42 wX6_readClause_c rfl
theorem dX6_readClause_53 : decode cX6_readClause 53 = .ok (.bipush 14, 2) := dw_16 wX6_readClause_c 14 rfl rfl rfl
theorem dX6_readClause_55 : decode cX6_readClause 55 = .ok (.iload_n 1, 1) := dw_27 wX6_readClause_c rfl
theorem dX6_readClause_56 : decode cX6_readClause 56 = .ok (.invokevirtual 63, 3) := dw_182 wX6_readClause_c 0 63 rfl rfl
theorem dX6_readClause_59 : decode cX6_readClause 59 = .ok (.ifCond .eq 15, 3) := dw_153 wX6_readClause_c 0 15 rfl rfl rfl
theorem dX6_readClause_62 : decode cX6_readClause 62 = .ok (.aload_n 0, 1) := dw_42 wX6_readClause_c rfl
theorem dX6_readClause_63 : decode cX6_readClause 63 = .ok (.iconst 0, 1) := dw_3 wX6_readClause_c rfl
theorem dX6_readClause_64 : decode cX6_readClause 64 = .ok (.invokevirtual 66, 3) := dw_182 wX6_readClause_c 0 66 rfl rfl
theorem dX6_readClause_67 : decode cX6_readClause 67 = .ok (.ifCond .eq 7, 3) := dw_153 wX6_readClause_c 0 7 rfl rfl rfl
theorem dX6_readClause_70 : decode cX6_readClause 70 = .ok (.iconst 1, 1) := dw_4 wX6_readClause_c rfl
theorem dX6_readClause_71 : decode cX6_readClause 71 = .ok (.goto 4, 3) := dw_167 wX6_readClause_c 0 4 rfl rfl rfl
theorem dX6_readClause_74 : decode cX6_readClause 74 = .ok (.iconst 0, 1) := dw_3 wX6_readClause_c rfl
theorem dX6_readClause_75 : decode cX6_readClause 75 = .ok (.ireturn, 1) := dw_172 wX6_readClause_c rfl
theorem dX6_readClause_76 : decode cX6_readClause 76 = .ok (.aload_n 0, 1) := dw_42 wX6_readClause_c rfl
theorem dX6_readClause_77 : decode cX6_readClause 77 = .ok (.iload_n 2, 1) := dw_28 wX6_readClause_c rfl
theorem dX6_readClause_78 : decode cX6_readClause 78 = .ok (.iload_n 1, 1) := dw_27 wX6_readClause_c rfl
theorem dX6_readClause_79 : decode cX6_readClause 79 = .ok (.invokevirtual 63, 3) := dw_182 wX6_readClause_c 0 63 rfl rfl
theorem dX6_readClause_82 : decode cX6_readClause 82 = .ok (.ifCond .eq 30, 3) := dw_153 wX6_readClause_c 0 30 rfl rfl rfl
theorem dX6_readClause_85 : decode cX6_readClause 85 = .ok (.aload_n 0, 1) := dw_42 wX6_readClause_c rfl
theorem dX6_readClause_86 : decode cX6_readClause 86 = .ok (.iload_n 2, 1) := dw_28 wX6_readClause_c rfl
theorem dX6_readClause_87 : decode cX6_readClause 87 = .ok (.invokevirtual 70, 3) := dw_182 wX6_readClause_c 0 70 rfl rfl
theorem dX6_readClause_90 : decode cX6_readClause 90 = .ok (.ifCond .eq 22, 3) := dw_153 wX6_readClause_c 0 22 rfl rfl rfl
theorem dX6_readClause_93 : decode cX6_readClause 93 = .ok (.iload_n 2, 1) := dw_28 wX6_readClause_c rfl
theorem dX6_readClause_94 : decode cX6_readClause 94 = .ok (.bipush 6, 2) := dw_16 wX6_readClause_c 6 rfl rfl rfl
theorem dX6_readClause_96 : decode cX6_readClause 96 = .ok (.if_icmp .ne 12, 3) := dw_160 wX6_readClause_c 0 12 rfl rfl rfl
theorem dX6_readClause_99 : decode cX6_readClause 99 = .ok (.aload_n 0, 1) := dw_42 wX6_readClause_c rfl
theorem dX6_readClause_100 : decode cX6_readClause 100 = .ok (.bipush 7, 2) := dw_16 wX6_readClause_c 7 rfl rfl rfl
theorem dX6_readClause_102 : decode cX6_readClause 102 = .ok (.invokevirtual 70, 3) := dw_182 wX6_readClause_c 0 70 rfl rfl
theorem dX6_readClause_105 : decode cX6_readClause 105 = .ok (.ifCond .eq 7, 3) := dw_153 wX6_readClause_c 0 7 rfl rfl rfl
theorem dX6_readClause_108 : decode cX6_readClause 108 = .ok (.iconst 1, 1) := dw_4 wX6_readClause_c rfl
theorem dX6_readClause_109 : decode cX6_readClause 109 = .ok (.goto 4, 3) := dw_167 wX6_readClause_c 0 4 rfl rfl rfl
theorem dX6_readClause_112 : decode cX6_readClause 112 = .ok (.iconst 0, 1) := dw_3 wX6_readClause_c rfl
theorem dX6_readClause_113 : decode cX6_readClause 113 = .ok (.ireturn, 1) := dw_172 wX6_readClause_c rfl
def wNX6_isAnotherClause : Nat := 29110309711541612278117171414002039464207370777262912330279695417615930300804475098918017434637932032677623087526024198446167594
theorem wX6_isAnotherClause_c : hz_cd cX6_isAnotherClause wNX6_isAnotherClause 53 := ⟨by decide +kernel, by decide +kernel⟩
theorem dX6_isAnotherClause_0 : decode cX6_isAnotherClause 0 = .ok (.aload_n 0, 1) := dw_42 wX6_isAnotherClause_c rfl
theorem dX6_isAnotherClause_1 : decode cX6_isAnotherClause 1 = .ok (.invokevirtual 35, 3) := dw_182 wX6_isAnotherClause_c 0 35 rfl rfl
theorem dX6_isAnotherClause_4 : decode cX6_isAnotherClause 4 = .ok (.aload_n 0, 1) := dw_42 wX6_isAnotherClause_c rfl
theorem dX6_isAnotherClause_5 : decode cX6_isAnotherClause 5 = .ok (.getfield 19, 3) := dw_180 wX6_isAnotherClause_c 0 19 rfl rfl
theorem dX6_isAnotherClause_8 : decode cX6_isAnotherClause 8 = .ok (.aload_n 0, 1) := dw_42 wX6_isAnotherClause_c rfl
theorem dX6_isAnotherClause_9 : decode cX6_isAnotherClause 9 = .ok (.getfield 15, 3) := dw_180 wX6_isAnotherClause_c 0 15 rfl rfl
theorem dX6_isAnotherClause_12 : decode cX6_isAnotherClause 12 = .ok (.if_icmp .lt 5, 3) := dw_161 wX6_isAnotherClause_c 0 5 rfl rfl rfl
theorem dX6_isAnotherClause_15 : decode cX6_isAnotherClause 15 = .ok (.iconst 0, 1) := dw_3 wX6_isAnotherClause_c rfl
theorem dX6_isAnotherClause_16 : decode cX6_isAnotherClause 16 = .ok (.ireturn, 1) := dw_172 wX6_isAnotherClause_c rfl
theorem dX6_isAnotherClause_17 : decode cX6_isAnotherClause 17 = .ok (.aload_n 0, 1) := dw_42 wX6_isAnotherClause_c rfl
theorem dX6_isAnotherClause_18 : decode cX6_isAnotherClause 18 = .ok (.getfield 9, 3) := dw_180 wX6_isAnotherClause_c 0 9 rfl rfl
theorem dX6_isAnotherClause_21 : decode cX6_isAnotherClause 21 = .ok (.aload_n 0, 1) := dw_42 wX6_isAnotherClause_c rfl
theorem dX6_isAnotherClause_22 : decode cX6_isAnotherClause 22 = .ok (.getfield 19, 3) := dw_180 wX6_isAnotherClause_c 0 19 rfl rfl
theorem dX6_isAnotherClause_25 : decode cX6_isAnotherClause 25 = .ok (.baload, 1) := dw_51 wX6_isAnotherClause_c rfl
theorem dX6_isAnotherClause_26 : decode cX6_isAnotherClause 26 = .ok (.bipush 59, 2) := dw_16 wX6_isAnotherClause_c 59 rfl rfl rfl
theorem dX6_isAnotherClause_28 : decode cX6_isAnotherClause 28 = .ok (.if_icmp .eq 13, 3) := dw_159 wX6_isAnotherClause_c 0 13 rfl rfl rfl
theorem dX6_isAnotherClause_31 : decode cX6_isAnotherClause 31 = .ok (.aload_n 0, 1) := dw_42 wX6_isAnotherClause_c rfl
theorem dX6_isAnotherClause_32 : decode cX6_isAnotherClause 32 = .ok (.aload_n 0, 1) := dw_42 wX6_isAnotherClause_c rfl
theorem dX6_isAnotherClause_33 : decode cX6_isAnotherClause 33 = .ok (.getfield 19, 3) := dw_180 wX6_isAnotherClause_c 0 19 rfl rfl
theorem dX6_isAnotherClause_36 : decode cX6_isAnotherClause 36 = .ok (.iconst 0, 1) := dw_3 wX6_isAnotherClause_c rfl
theorem dX6_isAnotherClause_37 : decode cX6_isAnotherClause 37 = .ok (.invokevirtual 45, 3) := dw_182 wX6_isAnotherClause_c 0 45 rfl rfl
theorem dX6_isAnotherClause_40 : decode cX6_isAnotherClause 40 = .ok (.ireturn, 1) := dw_172 wX6_isAnotherClause_c rfl
theorem dX6_isAnotherClause_41 : decode cX6_isAnotherClause 41 = .ok (.aload_n 0, 1) := dw_42 wX6_isAnotherClause_c rfl
theorem dX6_isAnotherClause_42 : decode cX6_isAnotherClause 42 = .ok (.dup, 1) := dw_89 wX6_isAnotherClause_c rfl
theorem dX6_isAnotherClause_43 : decode cX6_isAnotherClause 43 = .ok (.getfield 19, 3) := dw_180 wX6_isAnotherClause_c 0 19 rfl rfl
theorem dX6_isAnotherClause_46 : decode cX6_isAnotherClause 46 = .ok (.iconst 1, 1) := dw_4 wX6_isAnotherClause_c rfl
theorem dX6_isAnotherClause_47 : decode cX6_isAnotherClause 47 = .ok (.iadd, 1) := dw_96 wX6_isAnotherClause_c rfl
theorem dX6_isAnotherClause_48 : decode cX6_isAnotherClause 48 = .ok (.putfield 19, 3) := dw_181 wX6_isAnotherClause_c 0 19 rfl rfl
theorem dX6_isAnotherClause_51 : decode cX6_isAnotherClause 51 = .ok (.iconst 1, 1) := dw_4 wX6_isAnotherClause_c rfl
theorem dX6_isAnotherClause_52 : decode cX6_isAnotherClause 52 = .ok (.ireturn, 1) := dw_172 wX6_isAnotherClause_c rfl
def wNX6_readAct : Nat := 6550904697409258924151148214841616862762914885797107122918157767471658788079566816342609712596164020947052719890348903434459215244701965376387488570403956771075721280932322763827130125217261449468564335220248031386510647932391601791873077327194845648831533351251387984572243084624862194474
theorem wX6_readAct_c : hz_cd cX6_readAct wNX6_readAct 120 := ⟨by decide +kernel, by decide +kernel⟩
theorem dX6_readAct_0 : decode cX6_readAct 0 = .ok (.aload_n 0, 1) := dw_42 wX6_readAct_c rfl
theorem dX6_readAct_1 : decode cX6_readAct 1 = .ok (.aload_n 1, 1) := dw_43 wX6_readAct_c rfl
theorem dX6_readAct_2 : decode cX6_readAct 2 = .ok (.putfield 9, 3) := dw_181 wX6_readAct_c 0 9 rfl rfl
theorem dX6_readAct_5 : decode cX6_readAct 5 = .ok (.aload_n 0, 1) := dw_42 wX6_readAct_c rfl
theorem dX6_readAct_6 : decode cX6_readAct 6 = .ok (.iload_n 2, 1) := dw_28 wX6_readAct_c rfl
theorem dX6_readAct_7 : decode cX6_readAct 7 = .ok (.ifCond .lt 9, 3) := dw_155 wX6_readAct_c 0 9 rfl rfl rfl
theorem dX6_readAct_10 : decode cX6_readAct 10 = .ok (.iload_n 2, 1) := dw_28 wX6_readAct_c rfl
theorem dX6_readAct_11 : decode cX6_readAct 11 = .ok (.aload_n 1, 1) := dw_43 wX6_readAct_c rfl
theorem dX6_readAct_12 : decode cX6_readAct 12 = .ok (.arraylength, 1) := dw_190 wX6_readAct_c rfl
theorem dX6_readAct_13 : decode cX6_readAct 13 = .ok (.if_icmp .le 7, 3) := dw_164 wX6_readAct_c 0 7 rfl rfl rfl
theorem dX6_readAct_20 : decode cX6_readAct 20 = .ok (.iload_n 2, 1) := dw_28 wX6_readAct_c rfl
theorem dX6_readAct_21 : decode cX6_readAct 21 = .ok (.putfield 15, 3) := dw_181 wX6_readAct_c 0 15 rfl rfl
theorem dX6_readAct_24 : decode cX6_readAct 24 = .ok (.aload_n 0, 1) := dw_42 wX6_readAct_c rfl
theorem dX6_readAct_25 : decode cX6_readAct 25 = .ok (.iconst 0, 1) := dw_3 wX6_readAct_c rfl
theorem dX6_readAct_26 : decode cX6_readAct 26 = .ok (.putfield 19, 3) := dw_181 wX6_readAct_c 0 19 rfl rfl
theorem dX6_readAct_29 : decode cX6_readAct 29 = .ok (.aload_n 0, 1) := dw_42 wX6_readAct_c rfl
theorem dX6_readAct_30 : decode cX6_readAct 30 = .ok (.iconst 0, 1) := dw_3 wX6_readAct_c rfl
theorem dX6_readAct_31 : decode cX6_readAct 31 = .ok (.putfield 22, 3) := dw_181 wX6_readAct_c 0 22 rfl rfl
theorem dX6_readAct_34 : decode cX6_readAct 34 = .ok (.aload_n 0, 1) := dw_42 wX6_readAct_c rfl
theorem dX6_readAct_35 : decode cX6_readAct 35 = .ok (.iconst 0, 1) := dw_3 wX6_readAct_c rfl
theorem dX6_readAct_36 : decode cX6_readAct 36 = .ok (.putfield 25, 3) := dw_181 wX6_readAct_c 0 25 rfl rfl
theorem dX6_readAct_39 : decode cX6_readAct 39 = .ok (.aload_n 0, 1) := dw_42 wX6_readAct_c rfl
theorem dX6_readAct_40 : decode cX6_readAct 40 = .ok (.iconst 0, 1) := dw_3 wX6_readAct_c rfl
theorem dX6_readAct_41 : decode cX6_readAct 41 = .ok (.putfield 28, 3) := dw_181 wX6_readAct_c 0 28 rfl rfl
theorem dX6_readAct_44 : decode cX6_readAct 44 = .ok (.aload_n 0, 1) := dw_42 wX6_readAct_c rfl
theorem dX6_readAct_45 : decode cX6_readAct 45 = .ok (.aload_n 3, 1) := dw_45 wX6_readAct_c rfl
theorem dX6_readAct_46 : decode cX6_readAct 46 = .ok (.putfield 31, 3) := dw_181 wX6_readAct_c 0 31 rfl rfl
theorem dX6_readAct_49 : decode cX6_readAct 49 = .ok (.aload_n 0, 1) := dw_42 wX6_readAct_c rfl
theorem dX6_readAct_50 : decode cX6_readAct 50 = .ok (.invokevirtual 35, 3) := dw_182 wX6_readAct_c 0 35 rfl rfl
theorem dX6_readAct_53 : decode cX6_readAct 53 = .ok (.aload_n 0, 1) := dw_42 wX6_readAct_c rfl
theorem dX6_readAct_54 : decode cX6_readAct 54 = .ok (.getfield 19, 3) := dw_180 wX6_readAct_c 0 19 rfl rfl
theorem dX6_readAct_57 : decode cX6_readAct 57 = .ok (.aload_n 0, 1) := dw_42 wX6_readAct_c rfl
theorem dX6_readAct_58 : decode cX6_readAct 58 = .ok (.getfield 15, 3) := dw_180 wX6_readAct_c 0 15 rfl rfl
theorem dX6_readAct_61 : decode cX6_readAct 61 = .ok (.if_icmp .ge 7, 3) := dw_162 wX6_readAct_c 0 7 rfl rfl rfl
theorem dX6_readAct_64 : decode cX6_readAct 64 = .ok (.iconst 1, 1) := dw_4 wX6_readAct_c rfl
theorem dX6_readAct_65 : decode cX6_readAct 65 = .ok (.goto 4, 3) := dw_167 wX6_readAct_c 0 4 rfl rfl rfl
theorem dX6_readAct_68 : decode cX6_readAct 68 = .ok (.iconst 0, 1) := dw_3 wX6_readAct_c rfl
theorem dX6_readAct_69 : decode cX6_readAct 69 = .ok (.istore 4, 2) := dw_54 wX6_readAct_c 4 rfl
theorem dX6_readAct_71 : decode cX6_readAct 71 = .ok (.iconst 0, 1) := dw_3 wX6_readAct_c rfl
theorem dX6_readAct_72 : decode cX6_readAct 72 = .ok (.istore 5, 2) := dw_54 wX6_readAct_c 5 rfl
theorem dX6_readAct_74 : decode cX6_readAct 74 = .ok (.iload 5, 2) := dw_21 wX6_readAct_c 5 rfl
theorem dX6_readAct_76 : decode cX6_readAct 76 = .ok (.aload_n 0, 1) := dw_42 wX6_readAct_c rfl
theorem dX6_readAct_77 : decode cX6_readAct 77 = .ok (.getfield 15, 3) := dw_180 wX6_readAct_c 0 15 rfl rfl
theorem dX6_readAct_80 : decode cX6_readAct 80 = .ok (.if_icmp .gt 35, 3) := dw_163 wX6_readAct_c 0 35 rfl rfl rfl
theorem dX6_readAct_83 : decode cX6_readAct 83 = .ok (.iload 4, 2) := dw_21 wX6_readAct_c 4 rfl
theorem dX6_readAct_85 : decode cX6_readAct 85 = .ok (.ifCond .eq 30, 3) := dw_153 wX6_readAct_c 0 30 rfl rfl rfl
theorem dX6_readAct_88 : decode cX6_readAct 88 = .ok (.aload_n 0, 1) := dw_42 wX6_readAct_c rfl
theorem dX6_readAct_89 : decode cX6_readAct 89 = .ok (.invokevirtual 38, 3) := dw_182 wX6_readAct_c 0 38 rfl rfl
theorem dX6_readAct_92 : decode cX6_readAct 92 = .ok (.ifCond .eq 14, 3) := dw_153 wX6_readAct_c 0 14 rfl rfl rfl
theorem dX6_readAct_95 : decode cX6_readAct 95 = .ok (.aload_n 0, 1) := dw_42 wX6_readAct_c rfl
theorem dX6_readAct_96 : decode cX6_readAct 96 = .ok (.invokevirtual 42, 3) := dw_182 wX6_readAct_c 0 42 rfl rfl
theorem dX6_readAct_99 : decode cX6_readAct 99 = .ok (.ifCond .eq 7, 3) := dw_153 wX6_readAct_c 0 7 rfl rfl rfl
theorem dX6_readAct_102 : decode cX6_readAct 102 = .ok (.iconst 1, 1) := dw_4 wX6_readAct_c rfl
theorem dX6_readAct_103 : decode cX6_readAct 103 = .ok (.goto 4, 3) := dw_167 wX6_readAct_c 0 4 rfl rfl rfl
theorem dX6_readAct_106 : decode cX6_readAct 106 = .ok (.iconst 0, 1) := dw_3 wX6_readAct_c rfl
theorem dX6_readAct_107 : decode cX6_readAct 107 = .ok (.istore 4, 2) := dw_54 wX6_readAct_c 4 rfl
theorem dX6_readAct_109 : decode cX6_readAct 109 = .ok (.iinc 5 1, 3) := dw_132 wX6_readAct_c 5 1 rfl rfl rfl
theorem dX6_readAct_112 : decode cX6_readAct 112 = .ok (.goto (-38), 3) := dn_167 wX6_readAct_c 255 218 rfl (by decide)
theorem dX6_readAct_115 : decode cX6_readAct 115 = .ok (.aload_n 0, 1) := dw_42 wX6_readAct_c rfl
theorem dX6_readAct_116 : decode cX6_readAct 116 = .ok (.getfield 22, 3) := dw_180 wX6_readAct_c 0 22 rfl rfl
theorem dX6_readAct_119 : decode cX6_readAct 119 = .ok (.ireturn, 1) := dw_172 wX6_readAct_c rfl