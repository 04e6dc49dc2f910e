def wNX6_skipBlanks : Nat := 5797149586397577641311587849809773256991437404183184045180297343722141512820016245399890211882
theorem wX6_skipBlanks_c : hz_cd cX6_skipBlanks wNX6_skipBlanks 39 := ⟨by decide +kernel, by decide +kernel⟩
theorem dX6_skipBlanks_0 : decode cX6_skipBlanks 0 = .ok (.aload_n 0, 1) := dw_42 wX6_skipBlanks_c rfl
theorem dX6_skipBlanks_1 : decode cX6_skipBlanks 1 = .ok (.getfield 19, 3) := dw_180 wX6_skipBlanks_c 0 19 rfl rfl
theorem dX6_skipBlanks_4 : decode cX6_skipBlanks 4 = .ok (.aload_n 0, 1) := dw_42 wX6_skipBlanks_c rfl
theorem dX6_skipBlanks_5 : decode cX6_skipBlanks 5 = .ok (.getfield 15, 3) := dw_180 wX6_skipBlanks_c 0 15 rfl rfl
theorem dX6_skipBlanks_8 : decode cX6_skipBlanks 8 = .ok (.if_icmp .ge 30, 3) := dw_162 wX6_skipBlanks_c 0 30 rfl rfl rfl
theorem dX6_skipBlanks_11 : decode cX6_skipBlanks 11 = .ok (.aload_n 0, 1) := dw_42 wX6_skipBlanks_c rfl
theorem dX6_skipBlanks_12 : decode cX6_skipBlanks 12 = .ok (.getfield 9, 3) := dw_180 wX6_skipBlanks_c 0 9 rfl rfl
theorem dX6_skipBlanks_15 : decode cX6_skipBlanks 15 = .ok (.aload_n 0, 1) := dw_42 wX6_skipBlanks_c rfl
theorem dX6_skipBlanks_16 : decode cX6_skipBlanks 16 = .ok (.getfield 19, 3) := dw_180 wX6_skipBlanks_c 0 19 rfl rfl
theorem dX6_skipBlanks_19 : decode cX6_skipBlanks 19 = .ok (.baload, 1) := dw_51 wX6_skipBlanks_c rfl
theorem dX6_skipBlanks_20 : decode cX6_skipBlanks 20 = .ok (.bipush 32, 2) := dw_16 wX6_skipBlanks_c 32 rfl rfl rfl
theorem dX6_skipBlanks_22 : decode cX6_skipBlanks 22 = .ok (.if_icmp .ne 16, 3) := dw_160 wX6_skipBlanks_c 0 16 rfl rfl rfl
theorem dX6_skipBlanks_25 : decode cX6_skipBlanks 25 = .ok (.aload_n 0, 1) := dw_42 wX6_skipBlanks_c rfl
theorem dX6_skipBlanks_26 : decode cX6_skipBlanks 26 = .ok (.dup, 1) := dw_89 wX6_skipBlanks_c rfl
theorem dX6_skipBlanks_27 : decode cX6_skipBlanks 27 = .ok (.getfield 19, 3) := dw_180 wX6_skipBlanks_c 0 19 rfl rfl
theorem dX6_skipBlanks_30 : decode cX6_skipBlanks 30 = .ok (.iconst 1, 1) := dw_4 wX6_skipBlanks_c rfl
theorem dX6_skipBlanks_31 : decode cX6_skipBlanks 31 = .ok (.iadd, 1) := dw_96 wX6_skipBlanks_c rfl
theorem dX6_skipBlanks_32 : decode cX6_skipBlanks 32 = .ok (.putfield 19, 3) := dw_181 wX6_skipBlanks_c 0 19 rfl rfl
theorem dX6_skipBlanks_35 : decode cX6_skipBlanks 35 = .ok (.goto (-35), 3) := dn_167 wX6_skipBlanks_c 255 221 rfl (by decide)
theorem dX6_skipBlanks_38 : decode cX6_skipBlanks 38 = .ok (.return_, 1) := dw_177 wX6_skipBlanks_c rfl
theorem dX6_isByte_0 : decode cX6_isByte 0 = .ok (.aload_n 0, 1) := by decide +kernel
theorem dX6_isByte_1 : decode cX6_isByte 1 = .ok (.getfield 19, 3) := by decide +kernel
theorem dX6_isByte_4 : decode cX6_isByte 4 = .ok (.aload_n 0, 1) := by decide +kernel
theorem dX6_isByte_5 : decode cX6_isByte 5 = .ok (.getfield 15, 3) := by decide +kernel
theorem dX6_isByte_8 : decode cX6_isByte 8 = .ok (.if_icmp .ge 20, 3) := by decide +kernel
theorem dX6_isByte_11 : decode cX6_isByte 11 = .ok (.aload_n 0, 1) := by decide +kernel
theorem dX6_isByte_12 : decode cX6_isByte 12 = .ok (.getfield 9, 3) := by decide +kernel
theorem dX6_isByte_15 : decode cX6_isByte 15 = .ok (.aload_n 0, 1) := by decide +kernel
theorem dX6_isByte_16 : decode cX6_isByte 16 = .ok (.getfield 19, 3) := by decide +kernel
theorem dX6_isByte_19 : decode cX6_isByte 19 = .ok (.baload, 1) := by decide +kernel
theorem dX6_isByte_20 : decode cX6_isByte 20 = .ok (.iload_n 1, 1) := by decide +kernel
theorem dX6_isByte_21 : decode cX6_isByte 21 = .ok (.if_icmp .ne 7, 3) := by decide +kernel
theorem dX6_isByte_24 : decode cX6_isByte 24 = .ok (.iconst 1, 1) := by decide +kernel
theorem dX6_isByte_25 : decode cX6_isByte 25 = .ok (.goto 4, 3) := by decide +kernel
theorem dX6_isByte_28 : decode cX6_isByte 28 = .ok (.iconst 0, 1) := by decide +kernel
theorem dX6_isByte_29 : decode cX6_isByte 29 = .ok (.ireturn, 1) := by decide +kernel
def wNX6_isSlot : Nat := 220908421599580458279216398101073128970577224514678602044272349682422818649586452079719607332472958964968876574105905861057448062478278414891206767923959114551156278917335750487284559488889512614768165285800477
theorem wX6_isSlot_c : hz_cd cX6_isSlot wNX6_isSlot 87 := ⟨by decide +kernel, by decide +kernel⟩
theorem dX6_isSlot_0 : decode cX6_isSlot 0 = .ok (.iload_n 3, 1) := dw_29 wX6_isSlot_c rfl
theorem dX6_isSlot_1 : decode cX6_isSlot 1 = .ok (.aload_n 0, 1) := dw_42 wX6_isSlot_c rfl
theorem dX6_isSlot_2 : decode cX6_isSlot 2 = .ok (.getfield 19, 3) := dw_180 wX6_isSlot_c 0 19 rfl rfl
theorem dX6_isSlot_5 : decode cX6_isSlot 5 = .ok (.isub, 1) := dw_100 wX6_isSlot_c rfl
theorem dX6_isSlot_6 : decode cX6_isSlot 6 = .ok (.bipush 8, 2) := dw_16 wX6_isSlot_c 8 rfl rfl rfl
theorem dX6_isSlot_8 : decode cX6_isSlot 8 = .ok (.if_icmp .le 5, 3) := dw_164 wX6_isSlot_c 0 5 rfl rfl rfl
theorem dX6_isSlot_11 : decode cX6_isSlot 11 = .ok (.iconst 0, 1) := dw_3 wX6_isSlot_c rfl
theorem dX6_isSlot_12 : decode cX6_isSlot 12 = .ok (.ireturn, 1) := dw_172 wX6_isSlot_c rfl
theorem dX6_isSlot_13 : decode cX6_isSlot 13 = .ok (.iconst 0, 1) := dw_3 wX6_isSlot_c rfl
theorem dX6_isSlot_14 : decode cX6_isSlot 14 = .ok (.istore 4, 2) := dw_54 wX6_isSlot_c 4 rfl
theorem dX6_isSlot_16 : decode cX6_isSlot 16 = .ok (.iload 4, 2) := dw_21 wX6_isSlot_c 4 rfl
theorem dX6_isSlot_18 : decode cX6_isSlot 18 = .ok (.bipush 8, 2) := dw_16 wX6_isSlot_c 8 rfl rfl rfl
theorem dX6_isSlot_20 : decode cX6_isSlot 20 = .ok (.if_icmp .ge 65, 3) := dw_162 wX6_isSlot_c 0 65 rfl rfl rfl
theorem dX6_isSlot_23 : decode cX6_isSlot 23 = .ok (.iload_n 2, 1) := dw_28 wX6_isSlot_c rfl
theorem dX6_isSlot_24 : decode cX6_isSlot 24 = .ok (.iload 4, 2) := dw_21 wX6_isSlot_c 4 rfl
theorem dX6_isSlot_26 : decode cX6_isSlot 26 = .ok (.iadd, 1) := dw_96 wX6_isSlot_c rfl
theorem dX6_isSlot_27 : decode cX6_isSlot 27 = .ok (.aload_n 1, 1) := dw_43 wX6_isSlot_c rfl
theorem dX6_isSlot_28 : decode cX6_isSlot 28 = .ok (.invokevirtual 128, 3) := dw_182 wX6_isSlot_c 0 128 rfl rfl
theorem dX6_isSlot_31 : decode cX6_isSlot 31 = .ok (.if_icmp .ge 54, 3) := dw_162 wX6_isSlot_c 0 54 rfl rfl rfl
theorem dX6_isSlot_34 : decode cX6_isSlot 34 = .ok (.aload_n 0, 1) := dw_42 wX6_isSlot_c rfl
theorem dX6_isSlot_35 : decode cX6_isSlot 35 = .ok (.getfield 19, 3) := dw_180 wX6_isSlot_c 0 19 rfl rfl
theorem dX6_isSlot_38 : decode cX6_isSlot 38 = .ok (.iload 4, 2) := dw_21 wX6_isSlot_c 4 rfl
theorem dX6_isSlot_40 : decode cX6_isSlot 40 = .ok (.iadd, 1) := dw_96 wX6_isSlot_c rfl
theorem dX6_isSlot_41 : decode cX6_isSlot 41 = .ok (.iload_n 3, 1) := dw_29 wX6_isSlot_c rfl
theorem dX6_isSlot_42 : decode cX6_isSlot 42 = .ok (.if_icmp .ge 18, 3) := dw_162 wX6_isSlot_c 0 18 rfl rfl rfl
theorem dX6_isSlot_45 : decode cX6_isSlot 45 = .ok (.aload_n 0, 1) := dw_42 wX6_isSlot_c rfl
theorem dX6_isSlot_46 : decode cX6_isSlot 46 = .ok (.getfield 9, 3) := dw_180 wX6_isSlot_c 0 9 rfl rfl
theorem dX6_isSlot_49 : decode cX6_isSlot 49 = .ok (.aload_n 0, 1) := dw_42 wX6_isSlot_c rfl
theorem dX6_isSlot_50 : decode cX6_isSlot 50 = .ok (.getfield 19, 3) := dw_180 wX6_isSlot_c 0 19 rfl rfl
theorem dX6_isSlot_53 : decode cX6_isSlot 53 = .ok (.iload 4, 2) := dw_21 wX6_isSlot_c 4 rfl
theorem dX6_isSlot_55 : decode cX6_isSlot 55 = .ok (.iadd, 1) := dw_96 wX6_isSlot_c rfl
theorem dX6_isSlot_56 : decode cX6_isSlot 56 = .ok (.baload, 1) := dw_51 wX6_isSlot_c rfl
theorem dX6_isSlot_57 : decode cX6_isSlot 57 = .ok (.goto 5, 3) := dw_167 wX6_isSlot_c 0 5 rfl rfl rfl
theorem dX6_isSlot_60 : decode cX6_isSlot 60 = .ok (.bipush 32, 2) := dw_16 wX6_isSlot_c 32 rfl rfl rfl
theorem dX6_isSlot_62 : decode cX6_isSlot 62 = .ok (.istore 5, 2) := dw_54 wX6_isSlot_c 5 rfl
theorem dX6_isSlot_64 : decode cX6_isSlot 64 = .ok (.aload_n 1, 1) := dw_43 wX6_isSlot_c rfl
theorem dX6_isSlot_65 : decode cX6_isSlot 65 = .ok (.iload_n 2, 1) := dw_28 wX6_isSlot_c rfl
theorem dX6_isSlot_66 : decode cX6_isSlot 66 = .ok (.iload 4, 2) := dw_21 wX6_isSlot_c 4 rfl
theorem dX6_isSlot_68 : decode cX6_isSlot 68 = .ok (.iadd, 1) := dw_96 wX6_isSlot_c rfl
theorem dX6_isSlot_69 : decode cX6_isSlot 69 = .ok (.invokevirtual 136, 3) := dw_182 wX6_isSlot_c 0 136 rfl rfl
theorem dX6_isSlot_72 : decode cX6_isSlot 72 = .ok (.iload 5, 2) := dw_21 wX6_isSlot_c 5 rfl
theorem dX6_isSlot_74 : decode cX6_isSlot 74 = .ok (.if_icmp .eq 5, 3) := dw_159 wX6_isSlot_c 0 5 rfl rfl rfl
theorem dX6_isSlot_77 : decode cX6_isSlot 77 = .ok (.iconst 0, 1) := dw_3 wX6_isSlot_c rfl
theorem dX6_isSlot_78 : decode cX6_isSlot 78 = .ok (.ireturn, 1) := dw_172 wX6_isSlot_c rfl
theorem dX6_isSlot_79 : decode cX6_isSlot 79 = .ok (.iinc 4 1, 3) := dw_132 wX6_isSlot_c 4 1 rfl rfl rfl
theorem dX6_isSlot_82 : decode cX6_isSlot 82 = .ok (.goto (-66), 3) := dn_167 wX6_isSlot_c 255 190 rfl (by decide)
theorem dX6_isSlot_85 : decode cX6_isSlot 85 = .ok (.iconst 1, 1) := dw_4 wX6_isSlot_c rfl
theorem dX6_isSlot_86 : decode cX6_isSlot 86 = .ok (.ireturn, 1) := dw_172 wX6_isSlot_c rfl
def wNX6_readWord : Nat := 32006226812738223832049829677963783030037384880323206860838670912416676305952039611108931273566292874114864336176995671246469367325482071594
theorem wX6_readWord_c : hz_cd cX6_readWord wNX6_readWord 58 := ⟨by decide +kernel, by decide +kernel⟩
theorem dX6_readWord_0 : decode cX6_readWord 0 = .ok (.aload_n 0, 1) := dw_42 wX6_readWord_c rfl
theorem dX6_readWord_1 : decode cX6_readWord 1 = .ok (.invokevirtual 35, 3) := dw_182 wX6_readWord_c 0 35 rfl rfl
theorem dX6_readWord_4 : decode cX6_readWord 4 = .ok (.aload_n 0, 1) := dw_42 wX6_readWord_c rfl
theorem dX6_readWord_5 : decode cX6_readWord 5 = .ok (.invokevirtual 125, 3) := dw_182 wX6_readWord_c 0 125 rfl rfl
theorem dX6_readWord_8 : decode cX6_readWord 8 = .ok (.istore_n 2, 1) := dw_61 wX6_readWord_c rfl
theorem dX6_readWord_9 : decode cX6_readWord 9 = .ok (.iconst 0, 1) := dw_3 wX6_readWord_c rfl
theorem dX6_readWord_10 : decode cX6_readWord 10 = .ok (.istore_n 3, 1) := dw_62 wX6_readWord_c rfl
theorem dX6_readWord_11 : decode cX6_readWord 11 = .ok (.iload_n 2, 1) := dw_28 wX6_readWord_c rfl
theorem dX6_readWord_12 : decode cX6_readWord 12 = .ok (.aload_n 0, 1) := dw_42 wX6_readWord_c rfl
theorem dX6_readWord_13 : decode cX6_readWord 13 = .ok (.getfield 19, 3) := dw_180 wX6_readWord_c 0 19 rfl rfl
theorem dX6_readWord_16 : decode cX6_readWord 16 = .ok (.if_icmp .le 40, 3) := dw_164 wX6_readWord_c 0 40 rfl rfl rfl
theorem dX6_readWord_19 : decode cX6_readWord 19 = .ok (.iload_n 3, 1) := dw_29 wX6_readWord_c rfl
theorem dX6_readWord_20 : decode cX6_readWord 20 = .ok (.bipush 8, 2) := dw_16 wX6_readWord_c 8 rfl rfl rfl
theorem dX6_readWord_22 : decode cX6_readWord 22 = .ok (.iadd, 1) := dw_96 wX6_readWord_c rfl
theorem dX6_readWord_23 : decode cX6_readWord 23 = .ok (.aload_n 1, 1) := dw_43 wX6_readWord_c rfl
theorem dX6_readWord_24 : decode cX6_readWord 24 = .ok (.invokevirtual 128, 3) := dw_182 wX6_readWord_c 0 128 rfl rfl
theorem dX6_readWord_27 : decode cX6_readWord 27 = .ok (.if_icmp .gt 29, 3) := dw_163 wX6_readWord_c 0 29 rfl rfl rfl
theorem dX6_readWord_30 : decode cX6_readWord 30 = .ok (.aload_n 0, 1) := dw_42 wX6_readWord_c rfl
theorem dX6_readWord_31 : decode cX6_readWord 31 = .ok (.aload_n 1, 1) := dw_43 wX6_readWord_c rfl
theorem dX6_readWord_32 : decode cX6_readWord 32 = .ok (.iload_n 3, 1) := dw_29 wX6_readWord_c rfl
theorem dX6_readWord_33 : decode cX6_readWord 33 = .ok (.iload_n 2, 1) := dw_28 wX6_readWord_c rfl
theorem dX6_readWord_34 : decode cX6_readWord 34 = .ok (.invokevirtual 132, 3) := dw_182 wX6_readWord_c 0 132 rfl rfl
theorem dX6_readWord_37 : decode cX6_readWord 37 = .ok (.ifCond .eq 13, 3) := dw_153 wX6_readWord_c 0 13 rfl rfl rfl
theorem dX6_readWord_40 : decode cX6_readWord 40 = .ok (.aload_n 0, 1) := dw_42 wX6_readWord_c rfl
theorem dX6_readWord_41 : decode cX6_readWord 41 = .ok (.iload_n 2, 1) := dw_28 wX6_readWord_c rfl
theorem dX6_readWord_42 : decode cX6_readWord 42 = .ok (.putfield 19, 3) := dw_181 wX6_readWord_c 0 19 rfl rfl
theorem dX6_readWord_45 : decode cX6_readWord 45 = .ok (.iload_n 3, 1) := dw_29 wX6_readWord_c rfl
theorem dX6_readWord_46 : decode cX6_readWord 46 = .ok (.bipush 8, 2) := dw_16 wX6_readWord_c 8 rfl rfl rfl
theorem dX6_readWord_48 : decode cX6_readWord 48 = .ok (.idiv, 1) := dw_108 wX6_readWord_c rfl
theorem dX6_readWord_49 : decode cX6_readWord 49 = .ok (.ireturn, 1) := dw_172 wX6_readWord_c rfl
theorem dX6_readWord_50 : decode cX6_readWord 50 = .ok (.iinc 3 8, 3) := dw_132 wX6_readWord_c 3 8 rfl rfl rfl
theorem dX6_readWord_53 : decode cX6_readWord 53 = .ok (.goto (-42), 3) := dn_167 wX6_readWord_c 255 214 rfl (by decide)
theorem dX6_readWord_56 : decode cX6_readWord 56 = .ok (.iconst (-1), 1) := dw_2 wX6_readWord_c rfl
theorem dX6_readWord_57 : decode cX6_readWord 57 = .ok (.ireturn, 1) := dw_172 wX6_readWord_c rfl
def wNX6_isNextWord : Nat := 19917603359255129748734087377963345982767018986605589166144320393836639383762474
theorem wX6_isNextWord_c : hz_cd cX6_isNextWord wNX6_isNextWord 33 := ⟨by decide +kernel, by decide +kernel⟩
theorem dX6_isNextWord_0 : decode cX6_isNextWord 0 = .ok (.aload_n 0, 1) := dw_42 wX6_isNextWord_c rfl
theorem dX6_isNextWord_1 : decode cX6_isNextWord 1 = .ok (.invokevirtual 35, 3) := dw_182 wX6_isNextWord_c 0 35 rfl rfl
theorem dX6_isNextWord_4 : decode cX6_isNextWord 4 = .ok (.aload_n 0, 1) := dw_42 wX6_isNextWord_c rfl
theorem dX6_isNextWord_5 : decode cX6_isNextWord 5 = .ok (.invokevirtual 125, 3) := dw_182 wX6_isNextWord_c 0 125 rfl rfl
theorem dX6_isNextWord_8 : decode cX6_isNextWord 8 = .ok (.istore_n 2, 1) := dw_61 wX6_isNextWord_c rfl
theorem dX6_isNextWord_9 : decode cX6_isNextWord 9 = .ok (.iload_n 2, 1) := dw_28 wX6_isNextWord_c rfl
theorem dX6_isNextWord_10 : decode cX6_isNextWord 10 = .ok (.aload_n 0, 1) := dw_42 wX6_isNextWord_c rfl
theorem dX6_isNextWord_11 : decode cX6_isNextWord 11 = .ok (.getfield 19, 3) := dw_180 wX6_isNextWord_c 0 19 rfl rfl
theorem dX6_isNextWord_14 : decode cX6_isNextWord 14 = .ok (.if_icmp .le 17, 3) := dw_164 wX6_isNextWord_c 0 17 rfl rfl rfl
theorem dX6_isNextWord_17 : decode cX6_isNextWord 17 = .ok (.aload_n 0, 1) := dw_42 wX6_isNextWord_c rfl
theorem dX6_isNextWord_18 : decode cX6_isNextWord 18 = .ok (.aload_n 1, 1) := dw_43 wX6_isNextWord_c rfl
theorem dX6_isNextWord_19 : decode cX6_isNextWord 19 = .ok (.iconst 0, 1) := dw_3 wX6_isNextWord_c rfl
theorem dX6_isNextWord_20 : decode cX6_isNextWord 20 = .ok (.iload_n 2, 1) := dw_28 wX6_isNextWord_c rfl
theorem dX6_isNextWord_21 : decode cX6_isNextWord 21 = .ok (.invokevirtual 132, 3) := dw_182 wX6_isNextWord_c 0 132 rfl rfl
theorem dX6_isNextWord_24 : decode cX6_isNextWord 24 = .ok (.ifCond .eq 7, 3) := dw_153 wX6_isNextWord_c 0 7 rfl rfl rfl
theorem dX6_isNextWord_27 : decode cX6_isNextWord 27 = .ok (.iconst 1, 1) := dw_4 wX6_isNextWord_c rfl
theorem dX6_isNextWord_28 : decode cX6_isNextWord 28 = .ok (.goto 4, 3) := dw_167 wX6_isNextWord_c 0 4 rfl rfl rfl
theorem dX6_isNextWord_31 : decode cX6_isNextWord 31 = .ok (.iconst 0, 1) := dw_3 wX6_isNextWord_c rfl
theorem dX6_isNextWord_32 : decode cX6_isNextWord 32 = .ok (.ireturn, 1) := dw_172 wX6_isNextWord_c rfl
def wNX6_readNumber : Nat := 863379501045519658136252882771502243928346134868729101897855451948862241286903832044111030701238777716533726810418967523572807130263746824758699605896397621334664098337399819920910891462470912981107675804714
theorem wX6_readNumber_c : hz_cd cX6_readNumber wNX6_readNumber 86 := ⟨by decide +kernel, by decide +kernel⟩
theorem dX6_readNumber_0 : decode cX6_readNumber 0 = .ok (.aload_n 0, 1) := dw_42 wX6_readNumber_c rfl
theorem dX6_readNumber_1 : decode cX6_readNumber 1 = .ok (.getfield 19, 3) := dw_180 wX6_readNumber_c 0 19 rfl rfl
theorem dX6_readNumber_4 : decode cX6_readNumber 4 = .ok (.istore_n 1, 1) := dw_60 wX6_readNumber_c rfl
theorem dX6_readNumber_5 : decode cX6_readNumber 5 = .ok (.iconst 0, 1) := dw_3 wX6_readNumber_c rfl
theorem dX6_readNumber_6 : decode cX6_readNumber 6 = .ok (.istore_n 2, 1) := dw_61 wX6_readNumber_c rfl
theorem dX6_readNumber_7 : decode cX6_readNumber 7 = .ok (.aload_n 0, 1) := dw_42 wX6_readNumber_c rfl
theorem dX6_readNumber_8 : decode cX6_readNumber 8 = .ok (.getfield 19, 3) := dw_180 wX6_readNumber_c 0 19 rfl rfl
theorem dX6_readNumber_11 : decode cX6_readNumber 11 = .ok (.aload_n 0, 1) := dw_42 wX6_readNumber_c rfl
theorem dX6_readNumber_12 : decode cX6_readNumber 12 = .ok (.getfield 15, 3) := dw_180 wX6_readNumber_c 0 15 rfl rfl
theorem dX6_readNumber_15 : decode cX6_readNumber 15 = .ok (.if_icmp .ge 55, 3) := dw_162 wX6_readNumber_c 0 55 rfl rfl rfl
theorem dX6_readNumber_18 : decode cX6_readNumber 18 = .ok (.aload_n 0, 1) := dw_42 wX6_readNumber_c rfl
theorem dX6_readNumber_19 : decode cX6_readNumber 19 = .ok (.aload_n 0, 1) := dw_42 wX6_readNumber_c rfl
theorem dX6_readNumber_20 : decode cX6_readNumber 20 = .ok (.getfield 19, 3) := dw_180 wX6_readNumber_c 0 19 rfl rfl
theorem dX6_readNumber_23 : decode cX6_readNumber 23 = .ok (.invokevirtual 75, 3) := dw_182 wX6_readNumber_c 0 75 rfl rfl
theorem dX6_readNumber_26 : decode cX6_readNumber 26 = .ok (.ifCond .eq 44, 3) := dw_153 wX6_readNumber_c 0 44 rfl rfl rfl
theorem dX6_readNumber_29 : decode cX6_readNumber 29 = .ok (.aload_n 0, 1) := dw_42 wX6_readNumber_c rfl
theorem dX6_readNumber_30 : decode cX6_readNumber 30 = .ok (.getfield 19, 3) := dw_180 wX6_readNumber_c 0 19 rfl rfl
theorem dX6_readNumber_33 : decode cX6_readNumber 33 = .ok (.iload_n 1, 1) := dw_27 wX6_readNumber_c rfl
theorem dX6_readNumber_34 : decode cX6_readNumber 34 = .ok (.isub, 1) := dw_100 wX6_readNumber_c rfl
theorem dX6_readNumber_35 : decode cX6_readNumber 35 = .ok (.iconst 4, 1) := dw_7 wX6_readNumber_c rfl
theorem dX6_readNumber_36 : decode cX6_readNumber 36 = .ok (.if_icmp .ge 21, 3) := dw_162 wX6_readNumber_c 0 21 rfl rfl rfl
theorem dX6_readNumber_39 : decode cX6_readNumber 39 = .ok (.iload_n 2, 1) := dw_28 wX6_readNumber_c rfl
theorem dX6_readNumber_40 : decode cX6_readNumber 40 = .ok (.bipush 10, 2) := dw_16 wX6_readNumber_c 10 rfl rfl rfl
theorem dX6_readNumber_42 : decode cX6_readNumber 42 = .ok (.imul, 1) := dw_104 wX6_readNumber_c rfl
theorem dX6_readNumber_43 : decode cX6_readNumber 43 = .ok (.aload_n 0, 1) := dw_42 wX6_readNumber_c rfl
theorem dX6_readNumber_44 : decode cX6_readNumber 44 = .ok (.getfield 9, 3) := dw_180 wX6_readNumber_c 0 9 rfl rfl
theorem dX6_readNumber_47 : decode cX6_readNumber 47 = .ok (.aload_n 0, 1) := dw_42 wX6_readNumber_c rfl
theorem dX6_readNumber_48 : decode cX6_readNumber 48 = .ok (.getfield 19, 3) := dw_180 wX6_readNumber_c 0 19 rfl rfl
theorem dX6_readNumber_51 : decode cX6_readNumber 51 = .ok (.baload, 1) := dw_51 wX6_readNumber_c rfl
theorem dX6_readNumber_52 : decode cX6_readNumber 52 = .ok (.iadd, 1) := dw_96 wX6_readNumber_c rfl
theorem dX6_readNumber_53 : decode cX6_readNumber 53 = .ok (.bipush 48, 2) := dw_16 wX6_readNumber_c 48 rfl rfl rfl
theorem dX6_readNumber_55 : decode cX6_readNumber 55 = .ok (.isub, 1) := dw_100 wX6_readNumber_c rfl
theorem dX6_readNumber_56 : decode cX6_readNumber 56 = .ok (.istore_n 2, 1) := dw_61 wX6_readNumber_c rfl
theorem dX6_readNumber_57 : decode cX6_readNumber 57 = .ok (.aload_n 0, 1) := dw_42 wX6_readNumber_c rfl
theorem dX6_readNumber_58 : decode cX6_readNumber 58 = .ok (.dup, 1) := dw_89 wX6_readNumber_c rfl
theorem dX6_readNumber_59 : decode cX6_readNumber 59 = .ok (.getfield 19, 3) := dw_180 wX6_readNumber_c 0 19 rfl rfl
theorem dX6_readNumber_62 : decode cX6_readNumber 62 = .ok (.iconst 1, 1) := dw_4 wX6_readNumber_c rfl
theorem dX6_readNumber_63 : decode cX6_readNumber 63 = .ok (.iadd, 1) := dw_96 wX6_readNumber_c rfl
theorem dX6_readNumber_64 : decode cX6_readNumber 64 = .ok (.putfield 19, 3) := dw_181 wX6_readNumber_c 0 19 rfl rfl
theorem dX6_readNumber_67 : decode cX6_readNumber 67 = .ok (.goto (-60), 3) := dn_167 wX6_readNumber_c 255 196 rfl (by decide)
theorem dX6_readNumber_70 : decode cX6_readNumber 70 = .ok (.aload_n 0, 1) := dw_42 wX6_readNumber_c rfl
theorem dX6_readNumber_71 : decode cX6_readNumber 71 = .ok (.getfield 19, 3) := dw_180 wX6_readNumber_c 0 19 rfl rfl
theorem dX6_readNumber_74 : decode cX6_readNumber 74 = .ok (.iload_n 1, 1) := dw_27 wX6_readNumber_c rfl
theorem dX6_readNumber_75 : decode cX6_readNumber 75 = .ok (.isub, 1) := dw_100 wX6_readNumber_c rfl
theorem dX6_readNumber_76 : decode cX6_readNumber 76 = .ok (.iconst 4, 1) := dw_7 wX6_readNumber_c rfl
theorem dX6_readNumber_77 : decode cX6_readNumber 77 = .ok (.if_icmp .le 7, 3) := dw_164 wX6_readNumber_c 0 7 rfl rfl rfl
theorem dX6_readNumber_80 : decode cX6_readNumber 80 = .ok (.iconst (-1), 1) := dw_2 wX6_readNumber_c rfl
theorem dX6_readNumber_81 : decode cX6_readNumber 81 = .ok (.goto 4, 3) := dw_167 wX6_readNumber_c 0 4 rfl rfl rfl
theorem dX6_readNumber_84 : decode cX6_readNumber 84 = .ok (.iload_n 2, 1) := dw_28 wX6_readNumber_c rfl
theorem dX6_readNumber_85 : decode cX6_readNumber 85 = .ok (.ireturn, 1) := dw_172 wX6_readNumber_c rfl
def wNX6_readSign : Nat := 649523056132126903832673449291719476574159675129502529069893700308536663965449075463144727085700148935245965022617387831025419160986415946658221099935703834682893413692970
theorem wX6_readSign_c : hz_cd cX6_readSign wNX6_readSign 71 := ⟨by decide +kernel, by decide +kernel⟩
theorem dX6_readSign_0 : decode cX6_readSign 0 = .ok (.aload_n 0, 1) := dw_42 wX6_readSign_c rfl
theorem dX6_readSign_1 : decode cX6_readSign 1 = .ok (.invokevirtual 35, 3) := dw_182 wX6_readSign_c 0 35 rfl rfl
theorem dX6_readSign_4 : decode cX6_readSign 4 = .ok (.aload_n 0, 1) := dw_42 wX6_readSign_c rfl
theorem dX6_readSign_5 : decode cX6_readSign 5 = .ok (.bipush 60, 2) := dw_16 wX6_readSign_c 60 rfl rfl rfl
theorem dX6_readSign_7 : decode cX6_readSign 7 = .ok (.invokevirtual 109, 3) := dw_182 wX6_readSign_c 0 109 rfl rfl
theorem dX6_readSign_10 : decode cX6_readSign 10 = .ok (.ifCond .eq 7, 3) := dw_153 wX6_readSign_c 0 7 rfl rfl rfl
theorem dX6_readSign_13 : decode cX6_readSign 13 = .ok (.iconst 1, 1) := dw_4 wX6_readSign_c rfl
theorem dX6_readSign_14 : decode cX6_readSign 14 = .ok (.goto 17, 3) := dw_167 wX6_readSign_c 0 17 rfl rfl rfl
theorem dX6_readSign_17 : decode cX6_readSign 17 = .ok (.aload_n 0, 1) := dw_42 wX6_readSign_c rfl
theorem dX6_readSign_18 : decode cX6_readSign 18 = .ok (.bipush 62, 2) := dw_16 wX6_readSign_c 62 rfl rfl rfl
theorem dX6_readSign_20 : decode cX6_readSign 20 = .ok (.invokevirtual 109, 3) := dw_182 wX6_readSign_c 0 109 rfl rfl
theorem dX6_readSign_23 : decode cX6_readSign 23 = .ok (.ifCond .eq 7, 3) := dw_153 wX6_readSign_c 0 7 rfl rfl rfl
theorem dX6_readSign_26 : decode cX6_readSign 26 = .ok (.iconst 4, 1) := dw_7 wX6_readSign_c rfl
theorem dX6_readSign_27 : decode cX6_readSign 27 = .ok (.goto 4, 3) := dw_167 wX6_readSign_c 0 4 rfl rfl rfl
theorem dX6_readSign_30 : decode cX6_readSign 30 = .ok (.iconst 0, 1) := dw_3 wX6_readSign_c rfl
theorem dX6_readSign_31 : decode cX6_readSign 31 = .ok (.istore_n 1, 1) := dw_60 wX6_readSign_c rfl
theorem dX6_readSign_32 : decode cX6_readSign 32 = .ok (.iload_n 1, 1) := dw_27 wX6_readSign_c rfl
theorem dX6_readSign_33 : decode cX6_readSign 33 = .ok (.ifCond .eq 13, 3) := dw_153 wX6_readSign_c 0 13 rfl rfl rfl
theorem dX6_readSign_36 : decode cX6_readSign 36 = .ok (.aload_n 0, 1) := dw_42 wX6_readSign_c rfl
theorem dX6_readSign_37 : decode cX6_readSign 37 = .ok (.dup, 1) := dw_89 wX6_readSign_c rfl
theorem dX6_readSign_38 : decode cX6_readSign 38 = .ok (.getfield 19, 3) := dw_180 wX6_readSign_c 0 19 rfl rfl
theorem dX6_readSign_41 : decode cX6_readSign 41 = .ok (.iconst 1, 1) := dw_4 wX6_readSign_c rfl
theorem dX6_readSign_42 : decode cX6_readSign 42 = .ok (.iadd, 1) := dw_96 wX6_readSign_c rfl
theorem dX6_readSign_43 : decode cX6_readSign 43 = .ok (.putfield 19, 3) := dw_181 wX6_readSign_c 0 19 rfl rfl
theorem dX6_readSign_46 : decode cX6_readSign 46 = .ok (.aload_n 0, 1) := dw_42 wX6_readSign_c rfl
theorem dX6_readSign_47 : decode cX6_readSign 47 = .ok (.bipush 61, 2) := dw_16 wX6_readSign_c 61 rfl rfl rfl
theorem dX6_readSign_49 : decode cX6_readSign 49 = .ok (.invokevirtual 109, 3) := dw_182 wX6_readSign_c 0 109 rfl rfl
theorem dX6_readSign_52 : decode cX6_readSign 52 = .ok (.ifCond .eq 17, 3) := dw_153 wX6_readSign_c 0 17 rfl rfl rfl
theorem dX6_readSign_55 : decode cX6_readSign 55 = .ok (.aload_n 0, 1) := dw_42 wX6_readSign_c rfl
theorem dX6_readSign_56 : decode cX6_readSign 56 = .ok (.dup, 1) := dw_89 wX6_readSign_c rfl
theorem dX6_readSign_57 : decode cX6_readSign 57 = .ok (.getfield 19, 3) := dw_180 wX6_readSign_c 0 19 rfl rfl
theorem dX6_readSign_60 : decode cX6_readSign 60 = .ok (.iconst 1, 1) := dw_4 wX6_readSign_c rfl
theorem dX6_readSign_61 : decode cX6_readSign 61 = .ok (.iadd, 1) := dw_96 wX6_readSign_c rfl
theorem dX6_readSign_62 : decode cX6_readSign 62 = .ok (.putfield 19, 3) := dw_181 wX6_readSign_c 0 19 rfl rfl
theorem dX6_readSign_65 : decode cX6_readSign 65 = .ok (.iload_n 1, 1) := dw_27 wX6_readSign_c rfl
theorem dX6_readSign_66 : decode cX6_readSign 66 = .ok (.iconst 2, 1) := dw_5 wX6_readSign_c rfl
theorem dX6_readSign_67 : decode cX6_readSign 67 = .ok (.ior, 1) := dw_128 wX6_readSign_c rfl
theorem dX6_readSign_68 : decode cX6_readSign 68 = .ok (.istore_n 1, 1) := dw_60 wX6_readSign_c rfl
theorem dX6_readSign_69 : decode cX6_readSign 69 = .ok (.iload_n 1, 1) := dw_27 wX6_readSign_c rfl
theorem dX6_readSign_70 : decode cX6_readSign 70 = .ok (.ireturn, 1) := dw_172 wX6_readSign_c rfl
def wNX6_readTold : Nat := 9905777909565387374572572663852140368255345972528597652724537054856406951367405334527917054752044583892661398998350977893603823491700438892816148226648120531844380202
theorem wX6_readTold_c : hz_cd cX6_readTold wNX6_readTold 69 := ⟨by decide +kernel, by decide +kernel⟩
theorem dX6_readTold_0 : decode cX6_readTold 0 = .ok (.aload_n 0, 1) := dw_42 wX6_readTold_c rfl
theorem dX6_readTold_1 : decode cX6_readTold 1 = .ok (.invokevirtual 35, 3) := dw_182 wX6_readTold_c 0 35 rfl rfl
theorem dX6_readTold_4 : decode cX6_readTold 4 = .ok (.aload_n 0, 1) := dw_42 wX6_readTold_c rfl
theorem dX6_readTold_5 : decode cX6_readTold 5 = .ok (.getfield 19, 3) := dw_180 wX6_readTold_c 0 19 rfl rfl
theorem dX6_readTold_8 : decode cX6_readTold 8 = .ok (.istore_n 2, 1) := dw_61 wX6_readTold_c rfl
theorem dX6_readTold_9 : decode cX6_readTold 9 = .ok (.aload_n 0, 1) := dw_42 wX6_readTold_c rfl
theorem dX6_readTold_10 : decode cX6_readTold 10 = .ok (.aload_n 0, 1) := dw_42 wX6_readTold_c rfl
theorem dX6_readTold_11 : decode cX6_readTold 11 = .ok (.getfield 19, 3) := dw_180 wX6_readTold_c 0 19 rfl rfl
theorem dX6_readTold_14 : decode cX6_readTold 14 = .ok (.invokevirtual 75, 3) := dw_182 wX6_readTold_c 0 75 rfl rfl
theorem dX6_readTold_17 : decode cX6_readTold 17 = .ok (.ifCond .ne 10, 3) := dw_154 wX6_readTold_c 0 10 rfl rfl rfl
theorem dX6_readTold_20 : decode cX6_readTold 20 = .ok (.aload_n 0, 1) := dw_42 wX6_readTold_c rfl
theorem dX6_readTold_21 : decode cX6_readTold 21 = .ok (.iload_n 2, 1) := dw_28 wX6_readTold_c rfl
theorem dX6_readTold_22 : decode cX6_readTold 22 = .ok (.iconst 0, 1) := dw_3 wX6_readTold_c rfl
theorem dX6_readTold_23 : decode cX6_readTold 23 = .ok (.invokevirtual 45, 3) := dw_182 wX6_readTold_c 0 45 rfl rfl
theorem dX6_readTold_26 : decode cX6_readTold 26 = .ok (.ireturn, 1) := dw_172 wX6_readTold_c rfl
theorem dX6_readTold_27 : decode cX6_readTold 27 = .ok (.aload_n 0, 1) := dw_42 wX6_readTold_c rfl
theorem dX6_readTold_28 : decode cX6_readTold 28 = .ok (.invokevirtual 78, 3) := dw_182 wX6_readTold_c 0 78 rfl rfl
theorem dX6_readTold_31 : decode cX6_readTold 31 = .ok (.istore_n 3, 1) := dw_62 wX6_readTold_c rfl
theorem dX6_readTold_32 : decode cX6_readTold 32 = .ok (.iload_n 3, 1) := dw_29 wX6_readTold_c rfl
theorem dX6_readTold_33 : decode cX6_readTold 33 = .ok (.getstatic 82, 3) := dw_178 wX6_readTold_c 0 82 rfl rfl
theorem dX6_readTold_36 : decode cX6_readTold 36 = .ok (.iload_n 1, 1) := dw_27 wX6_readTold_c rfl
theorem dX6_readTold_37 : decode cX6_readTold 37 = .ok (.iaload, 1) := dw_46 wX6_readTold_c rfl
theorem dX6_readTold_38 : decode cX6_readTold 38 = .ok (.if_icmp .lt 12, 3) := dw_161 wX6_readTold_c 0 12 rfl rfl rfl
theorem dX6_readTold_41 : decode cX6_readTold 41 = .ok (.iload_n 3, 1) := dw_29 wX6_readTold_c rfl
theorem dX6_readTold_42 : decode cX6_readTold 42 = .ok (.getstatic 86, 3) := dw_178 wX6_readTold_c 0 86 rfl rfl
theorem dX6_readTold_45 : decode cX6_readTold 45 = .ok (.iload_n 1, 1) := dw_27 wX6_readTold_c rfl
theorem dX6_readTold_46 : decode cX6_readTold 46 = .ok (.iaload, 1) := dw_46 wX6_readTold_c rfl
theorem dX6_readTold_47 : decode cX6_readTold 47 = .ok (.if_icmp .le 10, 3) := dw_164 wX6_readTold_c 0 10 rfl rfl rfl
theorem dX6_readTold_50 : decode cX6_readTold 50 = .ok (.aload_n 0, 1) := dw_42 wX6_readTold_c rfl
theorem dX6_readTold_51 : decode cX6_readTold 51 = .ok (.iload_n 2, 1) := dw_28 wX6_readTold_c rfl
theorem dX6_readTold_52 : decode cX6_readTold 52 = .ok (.iconst 1, 1) := dw_4 wX6_readTold_c rfl
theorem dX6_readTold_53 : decode cX6_readTold 53 = .ok (.invokevirtual 45, 3) := dw_182 wX6_readTold_c 0 45 rfl rfl
theorem dX6_readTold_56 : decode cX6_readTold 56 = .ok (.ireturn, 1) := dw_172 wX6_readTold_c rfl
theorem dX6_readTold_57 : decode cX6_readTold 57 = .ok (.aload_n 0, 1) := dw_42 wX6_readTold_c rfl
theorem dX6_readTold_58 : decode cX6_readTold 58 = .ok (.getfield 31, 3) := dw_180 wX6_readTold_c 0 31 rfl rfl
theorem dX6_readTold_61 : decode cX6_readTold 61 = .ok (.getfield 89, 3) := dw_180 wX6_readTold_c 0 89 rfl rfl
theorem dX6_readTold_64 : decode cX6_readTold 64 = .ok (.iload_n 1, 1) := dw_27 wX6_readTold_c rfl
theorem dX6_readTold_65 : decode cX6_readTold 65 = .ok (.iload_n 3, 1) := dw_29 wX6_readTold_c rfl
theorem dX6_readTold_66 : decode cX6_readTold 66 = .ok (.iastore, 1) := dw_79 wX6_readTold_c rfl
theorem dX6_readTold_67 : decode cX6_readTold 67 = .ok (.iconst 1, 1) := dw_4 wX6_readTold_c rfl
theorem dX6_readTold_68 : decode cX6_readTold 68 = .ok (.ireturn, 1) := dw_172 wX6_readTold_c rfl
def wNX6_readCost : Nat := 488378213324702958336540508466092861467093156467737801975773603480435909869629926179987571736587599385459991114530004360293614115403306
theorem wX6_readCost_c : hz_cd cX6_readCost wNX6_readCost 56 := ⟨by decide +kernel, by decide +kernel⟩
theorem dX6_readCost_0 : decode cX6_readCost 0 = .ok (.aload_n 0, 1) := dw_42 wX6_readCost_c rfl
theorem dX6_readCost_1 : decode cX6_readCost 1 = .ok (.invokevirtual 35, 3) := dw_182 wX6_readCost_c 0 35 rfl rfl
theorem dX6_readCost_4 : decode cX6_readCost 4 = .ok (.aload_n 0, 1) := dw_42 wX6_readCost_c rfl
theorem dX6_readCost_5 : decode cX6_readCost 5 = .ok (.getfield 19, 3) := dw_180 wX6_readCost_c 0 19 rfl rfl
theorem dX6_readCost_8 : decode cX6_readCost 8 = .ok (.istore_n 1, 1) := dw_60 wX6_readCost_c rfl
theorem dX6_readCost_9 : decode cX6_readCost 9 = .ok (.aload_n 0, 1) := dw_42 wX6_readCost_c rfl
theorem dX6_readCost_10 : decode cX6_readCost 10 = .ok (.ldc 73, 2) := dw_18 wX6_readCost_c 73 rfl
theorem dX6_readCost_12 : decode cX6_readCost 12 = .ok (.invokevirtual 51, 3) := dw_182 wX6_readCost_c 0 51 rfl rfl
theorem dX6_readCost_15 : decode cX6_readCost 15 = .ok (.istore_n 2, 1) := dw_61 wX6_readCost_c rfl
theorem dX6_readCost_16 : decode cX6_readCost 16 = .ok (.iload_n 2, 1) := dw_28 wX6_readCost_c rfl
theorem dX6_readCost_17 : decode cX6_readCost 17 = .ok (.ifCond .ge 10, 3) := dw_156 wX6_readCost_c 0 10 rfl rfl rfl
theorem dX6_readCost_20 : decode cX6_readCost 20 = .ok (.aload_n 0, 1) := dw_42 wX6_readCost_c rfl
theorem dX6_readCost_21 : decode cX6_readCost 21 = .ok (.iload_n 1, 1) := dw_27 wX6_readCost_c rfl
theorem dX6_readCost_22 : decode cX6_readCost 22 = .ok (.iconst 0, 1) := dw_3 wX6_readCost_c rfl
theorem dX6_readCost_23 : decode cX6_readCost 23 = .ok (.invokevirtual 45, 3) := dw_182 wX6_readCost_c 0 45 rfl rfl
theorem dX6_readCost_26 : decode cX6_readCost 26 = .ok (.ireturn, 1) := dw_172 wX6_readCost_c rfl
theorem dX6_readCost_27 : decode cX6_readCost 27 = .ok (.aload_n 0, 1) := dw_42 wX6_readCost_c rfl
theorem dX6_readCost_28 : decode cX6_readCost 28 = .ok (.bipush 10, 2) := dw_16 wX6_readCost_c 10 rfl rfl rfl
theorem dX6_readCost_30 : decode cX6_readCost 30 = .ok (.iload_n 2, 1) := dw_28 wX6_readCost_c rfl
theorem dX6_readCost_31 : decode cX6_readCost 31 = .ok (.iadd, 1) := dw_96 wX6_readCost_c rfl
theorem dX6_readCost_32 : decode cX6_readCost 32 = .ok (.iload_n 1, 1) := dw_27 wX6_readCost_c rfl
theorem dX6_readCost_33 : decode cX6_readCost 33 = .ok (.invokevirtual 63, 3) := dw_182 wX6_readCost_c 0 63 rfl rfl
theorem dX6_readCost_36 : decode cX6_readCost 36 = .ok (.ifCond .eq 18, 3) := dw_153 wX6_readCost_c 0 18 rfl rfl rfl
theorem dX6_readCost_39 : decode cX6_readCost 39 = .ok (.aload_n 0, 1) := dw_42 wX6_readCost_c rfl
theorem dX6_readCost_40 : decode cX6_readCost 40 = .ok (.bipush 10, 2) := dw_16 wX6_readCost_c 10 rfl rfl rfl
theorem dX6_readCost_42 : decode cX6_readCost 42 = .ok (.iload_n 2, 1) := dw_28 wX6_readCost_c rfl
theorem dX6_readCost_43 : decode cX6_readCost 43 = .ok (.iadd, 1) := dw_96 wX6_readCost_c rfl
theorem dX6_readCost_44 : decode cX6_readCost 44 = .ok (.invokevirtual 70, 3) := dw_182 wX6_readCost_c 0 70 rfl rfl
theorem dX6_readCost_47 : decode cX6_readCost 47 = .ok (.ifCond .eq 7, 3) := dw_153 wX6_readCost_c 0 7 rfl rfl rfl
theorem dX6_readCost_50 : decode cX6_readCost 50 = .ok (.iconst 1, 1) := dw_4 wX6_readCost_c rfl
theorem dX6_readCost_51 : decode cX6_readCost 51 = .ok (.goto 4, 3) := dw_167 wX6_readCost_c 0 4 rfl rfl rfl
theorem dX6_readCost_54 : decode cX6_readCost 54 = .ok (.iconst 0, 1) := dw_3 wX6_readCost_c rfl
theorem dX6_readCost_55 : decode cX6_readCost 55 = .ok (.ireturn, 1) := dw_172 wX6_readCost_c rfl