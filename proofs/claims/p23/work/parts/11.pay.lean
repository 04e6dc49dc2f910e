def wNX3_sumFor : Nat := 75170111345030427591448773836825683571534955356965769849839214188331280482774764507574734403563481823989301100652535006247062111868901769968380537343283410608226954624038520974702695703058391555415249615761667794318672282118662177902448623220962819
theorem wX3_sumFor_c : hz_cd cX3_sumFor wNX3_sumFor 103 := ⟨by decide +kernel, by decide +kernel⟩
theorem dX3_sumFor_0 : decode cX3_sumFor 0 = .ok (.iconst 0, 1) := dw_3 wX3_sumFor_c rfl
theorem dX3_sumFor_1 : decode cX3_sumFor 1 = .ok (.istore 4, 2) := dw_54 wX3_sumFor_c 4 rfl
theorem dX3_sumFor_3 : decode cX3_sumFor 3 = .ok (.iconst 0, 1) := dw_3 wX3_sumFor_c rfl
theorem dX3_sumFor_4 : decode cX3_sumFor 4 = .ok (.istore 5, 2) := dw_54 wX3_sumFor_c 5 rfl
theorem dX3_sumFor_6 : decode cX3_sumFor 6 = .ok (.iload 5, 2) := dw_21 wX3_sumFor_c 5 rfl
theorem dX3_sumFor_8 : decode cX3_sumFor 8 = .ok (.aload_n 0, 1) := dw_42 wX3_sumFor_c rfl
theorem dX3_sumFor_9 : decode cX3_sumFor 9 = .ok (.getfield 27, 3) := dw_180 wX3_sumFor_c 0 27 rfl rfl
theorem dX3_sumFor_12 : decode cX3_sumFor 12 = .ok (.if_icmp .ge 88, 3) := dw_162 wX3_sumFor_c 0 88 rfl rfl rfl
theorem dX3_sumFor_15 : decode cX3_sumFor 15 = .ok (.aload_n 0, 1) := dw_42 wX3_sumFor_c rfl
theorem dX3_sumFor_16 : decode cX3_sumFor 16 = .ok (.getfield 9, 3) := dw_180 wX3_sumFor_c 0 9 rfl rfl
theorem dX3_sumFor_19 : decode cX3_sumFor 19 = .ok (.iload 5, 2) := dw_21 wX3_sumFor_c 5 rfl
theorem dX3_sumFor_21 : decode cX3_sumFor 21 = .ok (.iaload, 1) := dw_46 wX3_sumFor_c rfl
theorem dX3_sumFor_22 : decode cX3_sumFor 22 = .ok (.iconst (-1), 1) := dw_2 wX3_sumFor_c rfl
theorem dX3_sumFor_23 : decode cX3_sumFor 23 = .ok (.if_icmp .eq 18, 3) := dw_159 wX3_sumFor_c 0 18 rfl rfl rfl
theorem dX3_sumFor_26 : decode cX3_sumFor 26 = .ok (.aload_n 0, 1) := dw_42 wX3_sumFor_c rfl
theorem dX3_sumFor_27 : decode cX3_sumFor 27 = .ok (.getfield 9, 3) := dw_180 wX3_sumFor_c 0 9 rfl rfl
theorem dX3_sumFor_30 : decode cX3_sumFor 30 = .ok (.iload 5, 2) := dw_21 wX3_sumFor_c 5 rfl
theorem dX3_sumFor_32 : decode cX3_sumFor 32 = .ok (.iaload, 1) := dw_46 wX3_sumFor_c rfl
theorem dX3_sumFor_33 : decode cX3_sumFor 33 = .ok (.iload_n 3, 1) := dw_29 wX3_sumFor_c rfl
theorem dX3_sumFor_34 : decode cX3_sumFor 34 = .ok (.if_icmp .gt 7, 3) := dw_163 wX3_sumFor_c 0 7 rfl rfl rfl
theorem dX3_sumFor_37 : decode cX3_sumFor 37 = .ok (.iconst 1, 1) := dw_4 wX3_sumFor_c rfl
theorem dX3_sumFor_38 : decode cX3_sumFor 38 = .ok (.goto 4, 3) := dw_167 wX3_sumFor_c 0 4 rfl rfl rfl
theorem dX3_sumFor_41 : decode cX3_sumFor 41 = .ok (.iconst 0, 1) := dw_3 wX3_sumFor_c rfl
theorem dX3_sumFor_42 : decode cX3_sumFor 42 = .ok (.istore 6, 2) := dw_54 wX3_sumFor_c 6 rfl
theorem dX3_sumFor_44 : decode cX3_sumFor 44 = .ok (.aload_n 0, 1) := dw_42 wX3_sumFor_c rfl
theorem dX3_sumFor_45 : decode cX3_sumFor 45 = .ok (.getfield 15, 3) := dw_180 wX3_sumFor_c 0 15 rfl rfl
theorem dX3_sumFor_48 : decode cX3_sumFor 48 = .ok (.iload 5, 2) := dw_21 wX3_sumFor_c 5 rfl
theorem dX3_sumFor_50 : decode cX3_sumFor 50 = .ok (.iaload, 1) := dw_46 wX3_sumFor_c rfl
theorem dX3_sumFor_51 : decode cX3_sumFor 51 = .ok (.iload_n 1, 1) := dw_27 wX3_sumFor_c rfl
theorem dX3_sumFor_52 : decode cX3_sumFor 52 = .ok (.if_icmp .ne 42, 3) := dw_160 wX3_sumFor_c 0 42 rfl rfl rfl
theorem dX3_sumFor_55 : decode cX3_sumFor 55 = .ok (.aload_n 0, 1) := dw_42 wX3_sumFor_c rfl
theorem dX3_sumFor_56 : decode cX3_sumFor 56 = .ok (.getfield 18, 3) := dw_180 wX3_sumFor_c 0 18 rfl rfl
theorem dX3_sumFor_59 : decode cX3_sumFor 59 = .ok (.iload 5, 2) := dw_21 wX3_sumFor_c 5 rfl
theorem dX3_sumFor_61 : decode cX3_sumFor 61 = .ok (.iaload, 1) := dw_46 wX3_sumFor_c rfl
theorem dX3_sumFor_62 : decode cX3_sumFor 62 = .ok (.iload_n 2, 1) := dw_28 wX3_sumFor_c rfl
theorem dX3_sumFor_63 : decode cX3_sumFor 63 = .ok (.if_icmp .gt 31, 3) := dw_163 wX3_sumFor_c 0 31 rfl rfl rfl
theorem dX3_sumFor_66 : decode cX3_sumFor 66 = .ok (.aload_n 0, 1) := dw_42 wX3_sumFor_c rfl
theorem dX3_sumFor_67 : decode cX3_sumFor 67 = .ok (.getfield 21, 3) := dw_180 wX3_sumFor_c 0 21 rfl rfl
theorem dX3_sumFor_70 : decode cX3_sumFor 70 = .ok (.iload 5, 2) := dw_21 wX3_sumFor_c 5 rfl
theorem dX3_sumFor_72 : decode cX3_sumFor 72 = .ok (.iaload, 1) := dw_46 wX3_sumFor_c rfl
theorem dX3_sumFor_73 : decode cX3_sumFor 73 = .ok (.iload_n 3, 1) := dw_29 wX3_sumFor_c rfl
theorem dX3_sumFor_74 : decode cX3_sumFor 74 = .ok (.if_icmp .gt 20, 3) := dw_163 wX3_sumFor_c 0 20 rfl rfl rfl
theorem dX3_sumFor_77 : decode cX3_sumFor 77 = .ok (.iload 6, 2) := dw_21 wX3_sumFor_c 6 rfl
theorem dX3_sumFor_79 : decode cX3_sumFor 79 = .ok (.ifCond .ne 15, 3) := dw_154 wX3_sumFor_c 0 15 rfl rfl rfl
theorem dX3_sumFor_82 : decode cX3_sumFor 82 = .ok (.iload 4, 2) := dw_21 wX3_sumFor_c 4 rfl
theorem dX3_sumFor_84 : decode cX3_sumFor 84 = .ok (.aload_n 0, 1) := dw_42 wX3_sumFor_c rfl
theorem dX3_sumFor_85 : decode cX3_sumFor 85 = .ok (.getfield 24, 3) := dw_180 wX3_sumFor_c 0 24 rfl rfl
theorem dX3_sumFor_88 : decode cX3_sumFor 88 = .ok (.iload 5, 2) := dw_21 wX3_sumFor_c 5 rfl
theorem dX3_sumFor_90 : decode cX3_sumFor 90 = .ok (.iaload, 1) := dw_46 wX3_sumFor_c rfl
theorem dX3_sumFor_91 : decode cX3_sumFor 91 = .ok (.iadd, 1) := dw_96 wX3_sumFor_c rfl
theorem dX3_sumFor_92 : decode cX3_sumFor 92 = .ok (.istore 4, 2) := dw_54 wX3_sumFor_c 4 rfl
theorem dX3_sumFor_94 : decode cX3_sumFor 94 = .ok (.iinc 5 1, 3) := dw_132 wX3_sumFor_c 5 1 rfl rfl rfl
theorem dX3_sumFor_97 : decode cX3_sumFor 97 = .ok (.goto (-91), 3) := dn_167 wX3_sumFor_c 255 165 rfl (by decide)
theorem dX3_sumFor_100 : decode cX3_sumFor 100 = .ok (.iload 4, 2) := dw_21 wX3_sumFor_c 4 rfl
theorem dX3_sumFor_102 : decode cX3_sumFor 102 = .ok (.ireturn, 1) := dw_172 wX3_sumFor_c rfl
def wNX3_addPayment : Nat := 3072352638319341537194374218074165144922966893422248214540203018502762949684346195608978202284098914811895245837412970194320040875901803106166001303038230037193893897196584863121591385423131690
theorem wX3_addPayment_c : hz_cd cX3_addPayment wNX3_addPayment 80 := ⟨by decide +kernel, by decide +kernel⟩
theorem dX3_addPayment_0 : decode cX3_addPayment 0 = .ok (.aload_n 0, 1) := dw_42 wX3_addPayment_c rfl
theorem dX3_addPayment_1 : decode cX3_addPayment 1 = .ok (.getfield 27, 3) := dw_180 wX3_addPayment_c 0 27 rfl rfl
theorem dX3_addPayment_4 : decode cX3_addPayment 4 = .ok (.sipush 600, 3) := dw_17 wX3_addPayment_c 2 88 rfl rfl rfl
theorem dX3_addPayment_7 : decode cX3_addPayment 7 = .ok (.if_icmp .lt 5, 3) := dw_161 wX3_addPayment_c 0 5 rfl rfl rfl
theorem dX3_addPayment_12 : decode cX3_addPayment 12 = .ok (.aload_n 0, 1) := dw_42 wX3_addPayment_c rfl
theorem dX3_addPayment_13 : decode cX3_addPayment 13 = .ok (.getfield 15, 3) := dw_180 wX3_addPayment_c 0 15 rfl rfl
theorem dX3_addPayment_16 : decode cX3_addPayment 16 = .ok (.aload_n 0, 1) := dw_42 wX3_addPayment_c rfl
theorem dX3_addPayment_17 : decode cX3_addPayment 17 = .ok (.getfield 27, 3) := dw_180 wX3_addPayment_c 0 27 rfl rfl
theorem dX3_addPayment_20 : decode cX3_addPayment 20 = .ok (.iload_n 1, 1) := dw_27 wX3_addPayment_c rfl
theorem dX3_addPayment_21 : decode cX3_addPayment 21 = .ok (.iastore, 1) := dw_79 wX3_addPayment_c rfl
theorem dX3_addPayment_22 : decode cX3_addPayment 22 = .ok (.aload_n 0, 1) := dw_42 wX3_addPayment_c rfl
theorem dX3_addPayment_23 : decode cX3_addPayment 23 = .ok (.getfield 18, 3) := dw_180 wX3_addPayment_c 0 18 rfl rfl
theorem dX3_addPayment_26 : decode cX3_addPayment 26 = .ok (.aload_n 0, 1) := dw_42 wX3_addPayment_c rfl
theorem dX3_addPayment_27 : decode cX3_addPayment 27 = .ok (.getfield 27, 3) := dw_180 wX3_addPayment_c 0 27 rfl rfl
theorem dX3_addPayment_30 : decode cX3_addPayment 30 = .ok (.iload_n 2, 1) := dw_28 wX3_addPayment_c rfl
theorem dX3_addPayment_31 : decode cX3_addPayment 31 = .ok (.iastore, 1) := dw_79 wX3_addPayment_c rfl
theorem dX3_addPayment_32 : decode cX3_addPayment 32 = .ok (.aload_n 0, 1) := dw_42 wX3_addPayment_c rfl
theorem dX3_addPayment_33 : decode cX3_addPayment 33 = .ok (.getfield 21, 3) := dw_180 wX3_addPayment_c 0 21 rfl rfl
theorem dX3_addPayment_36 : decode cX3_addPayment 36 = .ok (.aload_n 0, 1) := dw_42 wX3_addPayment_c rfl
theorem dX3_addPayment_37 : decode cX3_addPayment 37 = .ok (.getfield 27, 3) := dw_180 wX3_addPayment_c 0 27 rfl rfl
theorem dX3_addPayment_40 : decode cX3_addPayment 40 = .ok (.iload_n 3, 1) := dw_29 wX3_addPayment_c rfl
theorem dX3_addPayment_41 : decode cX3_addPayment 41 = .ok (.iastore, 1) := dw_79 wX3_addPayment_c rfl
theorem dX3_addPayment_42 : decode cX3_addPayment 42 = .ok (.aload_n 0, 1) := dw_42 wX3_addPayment_c rfl
theorem dX3_addPayment_43 : decode cX3_addPayment 43 = .ok (.getfield 24, 3) := dw_180 wX3_addPayment_c 0 24 rfl rfl
theorem dX3_addPayment_46 : decode cX3_addPayment 46 = .ok (.aload_n 0, 1) := dw_42 wX3_addPayment_c rfl
theorem dX3_addPayment_47 : decode cX3_addPayment 47 = .ok (.getfield 27, 3) := dw_180 wX3_addPayment_c 0 27 rfl rfl
theorem dX3_addPayment_50 : decode cX3_addPayment 50 = .ok (.iload 4, 2) := dw_21 wX3_addPayment_c 4 rfl
theorem dX3_addPayment_52 : decode cX3_addPayment 52 = .ok (.iastore, 1) := dw_79 wX3_addPayment_c rfl
theorem dX3_addPayment_53 : decode cX3_addPayment 53 = .ok (.aload_n 0, 1) := dw_42 wX3_addPayment_c rfl
theorem dX3_addPayment_54 : decode cX3_addPayment 54 = .ok (.getfield 9, 3) := dw_180 wX3_addPayment_c 0 9 rfl rfl
theorem dX3_addPayment_57 : decode cX3_addPayment 57 = .ok (.aload_n 0, 1) := dw_42 wX3_addPayment_c rfl
theorem dX3_addPayment_58 : decode cX3_addPayment 58 = .ok (.getfield 27, 3) := dw_180 wX3_addPayment_c 0 27 rfl rfl
theorem dX3_addPayment_61 : decode cX3_addPayment 61 = .ok (.iconst (-1), 1) := dw_2 wX3_addPayment_c rfl
theorem dX3_addPayment_62 : decode cX3_addPayment 62 = .ok (.iastore, 1) := dw_79 wX3_addPayment_c rfl
theorem dX3_addPayment_63 : decode cX3_addPayment 63 = .ok (.aload_n 0, 1) := dw_42 wX3_addPayment_c rfl
theorem dX3_addPayment_64 : decode cX3_addPayment 64 = .ok (.dup, 1) := dw_89 wX3_addPayment_c rfl
theorem dX3_addPayment_65 : decode cX3_addPayment 65 = .ok (.getfield 27, 3) := dw_180 wX3_addPayment_c 0 27 rfl rfl
theorem dX3_addPayment_68 : decode cX3_addPayment 68 = .ok (.iconst 1, 1) := dw_4 wX3_addPayment_c rfl
theorem dX3_addPayment_69 : decode cX3_addPayment 69 = .ok (.iadd, 1) := dw_96 wX3_addPayment_c rfl
theorem dX3_addPayment_70 : decode cX3_addPayment 70 = .ok (.putfield 27, 3) := dw_181 wX3_addPayment_c 0 27 rfl rfl
theorem dX3_addPayment_73 : decode cX3_addPayment 73 = .ok (.aload_n 0, 1) := dw_42 wX3_addPayment_c rfl
theorem dX3_addPayment_74 : decode cX3_addPayment 74 = .ok (.getfield 27, 3) := dw_180 wX3_addPayment_c 0 27 rfl rfl
theorem dX3_addPayment_77 : decode cX3_addPayment 77 = .ok (.iconst 1, 1) := dw_4 wX3_addPayment_c rfl
theorem dX3_addPayment_78 : decode cX3_addPayment 78 = .ok (.isub, 1) := dw_100 wX3_addPayment_c rfl
theorem dX3_addPayment_79 : decode cX3_addPayment 79 = .ok (.ireturn, 1) := dw_172 wX3_addPayment_c rfl