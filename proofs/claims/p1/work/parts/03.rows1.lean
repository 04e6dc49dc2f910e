theorem dX8_putOnList_15 : decode cX8_putOnList 15 = .ok (.iload_n 2, 1) := by decide +kernel
theorem dX8_putOnList_16 : decode cX8_putOnList 16 = .ok (.ifCond .le 41, 3) := by decide +kernel
theorem dX8_putOnList_19 : decode cX8_putOnList 19 = .ok (.aload_n 0, 1) := by decide +kernel
theorem dX8_putOnList_20 : decode cX8_putOnList 20 = .ok (.getfield 17, 3) := by decide +kernel
theorem dX8_putOnList_23 : decode cX8_putOnList 23 = .ok (.iload_n 2, 1) := by decide +kernel
theorem dX8_putOnList_24 : decode cX8_putOnList 24 = .ok (.iconst 1, 1) := by decide +kernel
theorem dX8_putOnList_25 : decode cX8_putOnList 25 = .ok (.isub, 1) := by decide +kernel
theorem dX8_putOnList_26 : decode cX8_putOnList 26 = .ok (.aaload, 1) := by decide +kernel
theorem dX8_putOnList_27 : decode cX8_putOnList 27 = .ok (.getfield 28, 3) := by decide +kernel
theorem dX8_putOnList_30 : decode cX8_putOnList 30 = .ok (.aload_n 1, 1) := by decide +kernel
theorem dX8_putOnList_31 : decode cX8_putOnList 31 = .ok (.getfield 28, 3) := by decide +kernel
theorem dX8_putOnList_34 : decode cX8_putOnList 34 = .ok (.if_icmp .le 23, 3) := by decide +kernel
theorem dX8_putOnList_37 : decode cX8_putOnList 37 = .ok (.aload_n 0, 1) := by decide +kernel
theorem dX8_putOnList_38 : decode cX8_putOnList 38 = .ok (.getfield 17, 3) := by decide +kernel
theorem dX8_putOnList_41 : decode cX8_putOnList 41 = .ok (.iload_n 2, 1) := by decide +kernel
theorem dX8_putOnList_42 : decode cX8_putOnList 42 = .ok (.aload_n 0, 1) := by decide +kernel
theorem dX8_putOnList_43 : decode cX8_putOnList 43 = .ok (.getfield 17, 3) := by decide +kernel
theorem dX8_putOnList_46 : decode cX8_putOnList 46 = .ok (.iload_n 2, 1) := by decide +kernel
theorem dX8_putOnList_47 : decode cX8_putOnList 47 = .ok (.iconst 1, 1) := by decide +kernel
theorem dX8_putOnList_48 : decode cX8_putOnList 48 = .ok (.isub, 1) := by decide +kernel
theorem dX8_putOnList_49 : decode cX8_putOnList 49 = .ok (.aaload, 1) := by decide +kernel
theorem dX8_putOnList_50 : decode cX8_putOnList 50 = .ok (.aastore, 1) := by decide +kernel
theorem dX8_putOnList_51 : decode cX8_putOnList 51 = .ok (.iinc 2 (-1), 3) := by decide +kernel
theorem dX8_putOnList_54 : decode cX8_putOnList 54 = .ok (.goto (-39), 3) := by decide +kernel
theorem dX8_putOnList_57 : decode cX8_putOnList 57 = .ok (.aload_n 0, 1) := by decide +kernel
theorem dX8_putOnList_58 : decode cX8_putOnList 58 = .ok (.getfield 17, 3) := by decide +kernel
theorem dX8_putOnList_61 : decode cX8_putOnList 61 = .ok (.iload_n 2, 1) := by decide +kernel
theorem dX8_putOnList_62 : decode cX8_putOnList 62 = .ok (.aload_n 1, 1) := by decide +kernel
theorem dX8_putOnList_63 : decode cX8_putOnList 63 = .ok (.aastore, 1) := by decide +kernel
theorem dX8_putOnList_64 : decode cX8_putOnList 64 = .ok (.aload_n 0, 1) := by decide +kernel
theorem dX8_putOnList_65 : decode cX8_putOnList 65 = .ok (.dup, 1) := by decide +kernel
theorem dX8_putOnList_66 : decode cX8_putOnList 66 = .ok (.getfield 24, 3) := by decide +kernel
theorem dX8_putOnList_69 : decode cX8_putOnList 69 = .ok (.iconst 1, 1) := by decide +kernel
theorem dX8_putOnList_70 : decode cX8_putOnList 70 = .ok (.iadd, 1) := by decide +kernel
theorem dX8_putOnList_71 : decode cX8_putOnList 71 = .ok (.putfield 24, 3) := by decide +kernel
theorem dX8_putOnList_74 : decode cX8_putOnList 74 = .ok (.return_, 1) := by decide +kernel
theorem dX8_walkList_0 : decode cX8_walkList 0 = .ok (.iconst 1, 1) := by decide +kernel
theorem dX8_walkList_1 : decode cX8_walkList 1 = .ok (.aload_n 0, 1) := by decide +kernel
theorem dX8_walkList_2 : decode cX8_walkList 2 = .ok (.getfield 24, 3) := by decide +kernel
theorem dX8_walkList_5 : decode cX8_walkList 5 = .ok (.ishl, 1) := by decide +kernel
theorem dX8_walkList_6 : decode cX8_walkList 6 = .ok (.iconst 1, 1) := by decide +kernel
theorem dX8_walkList_7 : decode cX8_walkList 7 = .ok (.isub, 1) := by decide +kernel
theorem dX8_walkList_8 : decode cX8_walkList 8 = .ok (.istore_n 1, 1) := by decide +kernel
theorem dX8_walkList_9 : decode cX8_walkList 9 = .ok (.iload_n 1, 1) := by decide +kernel
theorem dX8_walkList_10 : decode cX8_walkList 10 = .ok (.istore_n 2, 1) := by decide +kernel
theorem dX8_walkList_11 : decode cX8_walkList 11 = .ok (.iload_n 2, 1) := by decide +kernel
theorem dX8_walkList_12 : decode cX8_walkList 12 = .ok (.ifCond .le 63, 3) := by decide +kernel
theorem dX8_walkList_15 : decode cX8_walkList 15 = .ok (.iconst 0, 1) := by decide +kernel
theorem dX8_walkList_16 : decode cX8_walkList 16 = .ok (.istore_n 3, 1) := by decide +kernel
theorem dX8_walkList_17 : decode cX8_walkList 17 = .ok (.iload_n 3, 1) := by decide +kernel
theorem dX8_walkList_18 : decode cX8_walkList 18 = .ok (.aload_n 0, 1) := by decide +kernel
theorem dX8_walkList_19 : decode cX8_walkList 19 = .ok (.getfield 24, 3) := by decide +kernel
theorem dX8_walkList_22 : decode cX8_walkList 22 = .ok (.if_icmp .ge 47, 3) := by decide +kernel
theorem dX8_walkList_25 : decode cX8_walkList 25 = .ok (.iload_n 3, 1) := by decide +kernel
theorem dX8_walkList_26 : decode cX8_walkList 26 = .ok (.iload_n 2, 1) := by decide +kernel
theorem dX8_walkList_27 : decode cX8_walkList 27 = .ok (.invokestatic 31, 3) := by decide +kernel
theorem dX8_walkList_30 : decode cX8_walkList 30 = .ok (.ifCond .eq 33, 3) := by decide +kernel
theorem dX8_walkList_33 : decode cX8_walkList 33 = .ok (.aload_n 0, 1) := by decide +kernel
theorem dX8_walkList_34 : decode cX8_walkList 34 = .ok (.getfield 21, 3) := by decide +kernel
theorem dX8_walkList_37 : decode cX8_walkList 37 = .ok (.iload_n 2, 1) := by decide +kernel
theorem dX8_walkList_38 : decode cX8_walkList 38 = .ok (.bipush 8, 2) := by decide +kernel
theorem dX8_walkList_40 : decode cX8_walkList 40 = .ok (.imul, 1) := by decide +kernel
theorem dX8_walkList_41 : decode cX8_walkList 41 = .ok (.iload_n 3, 1) := by decide +kernel
theorem dX8_walkList_42 : decode cX8_walkList 42 = .ok (.iadd, 1) := by decide +kernel
theorem dX8_walkList_43 : decode cX8_walkList 43 = .ok (.iload_n 2, 1) := by decide +kernel
theorem dX8_walkList_44 : decode cX8_walkList 44 = .ok (.iload_n 1, 1) := by decide +kernel
theorem dX8_walkList_45 : decode cX8_walkList 45 = .ok (.if_icmp .ne 11, 3) := by decide +kernel
theorem dX8_walkList_48 : decode cX8_walkList 48 = .ok (.aload_n 0, 1) := by decide +kernel
theorem dX8_walkList_49 : decode cX8_walkList 49 = .ok (.iload_n 3, 1) := by decide +kernel
theorem dX8_walkList_50 : decode cX8_walkList 50 = .ok (.invokevirtual 35, 3) := by decide +kernel
theorem dX8_walkList_53 : decode cX8_walkList 53 = .ok (.goto 9, 3) := by decide +kernel
theorem dX8_walkList_56 : decode cX8_walkList 56 = .ok (.aload_n 0, 1) := by decide +kernel
theorem dX8_walkList_57 : decode cX8_walkList 57 = .ok (.iload_n 2, 1) := by decide +kernel
theorem dX8_walkList_58 : decode cX8_walkList 58 = .ok (.iload_n 3, 1) := by decide +kernel
theorem dX8_walkList_59 : decode cX8_walkList 59 = .ok (.invokevirtual 39, 3) := by decide +kernel
theorem dX8_walkList_62 : decode cX8_walkList 62 = .ok (.iastore, 1) := by decide +kernel
theorem dX8_walkList_63 : decode cX8_walkList 63 = .ok (.iinc 3 1, 3) := by decide +kernel
theorem dX8_walkList_66 : decode cX8_walkList 66 = .ok (.goto (-49), 3) := by decide +kernel
theorem dX8_walkList_69 : decode cX8_walkList 69 = .ok (.iinc 2 (-1), 3) := by decide +kernel
theorem dX8_walkList_72 : decode cX8_walkList 72 = .ok (.goto (-61), 3) := by decide +kernel
theorem dX8_walkList_75 : decode cX8_walkList 75 = .ok (.aload_n 0, 1) := by decide +kernel
theorem dX8_walkList_76 : decode cX8_walkList 76 = .ok (.getfield 24, 3) := by decide +kernel
theorem dX8_walkList_79 : decode cX8_walkList 79 = .ok (.ifCond .ne 7, 3) := by decide +kernel
theorem dX8_walkList_82 : decode cX8_walkList 82 = .ok (.iconst 0, 1) := by decide +kernel
theorem dX8_walkList_83 : decode cX8_walkList 83 = .ok (.goto 9, 3) := by decide +kernel
theorem dX8_walkList_86 : decode cX8_walkList 86 = .ok (.aload_n 0, 1) := by decide +kernel
theorem dX8_walkList_87 : decode cX8_walkList 87 = .ok (.iconst 0, 1) := by decide +kernel
theorem dX8_walkList_88 : decode cX8_walkList 88 = .ok (.iconst (-1), 1) := by decide +kernel
theorem dX8_walkList_89 : decode cX8_walkList 89 = .ok (.invokevirtual 39, 3) := by decide +kernel
theorem dX8_walkList_92 : decode cX8_walkList 92 = .ok (.istore_n 2, 1) := by decide +kernel
theorem dX8_walkList_93 : decode cX8_walkList 93 = .ok (.aload_n 0, 1) := by decide +kernel
theorem dX8_walkList_94 : decode cX8_walkList 94 = .ok (.iload_n 2, 1) := by decide +kernel
theorem dX8_walkList_95 : decode cX8_walkList 95 = .ok (.invokevirtual 43, 3) := by decide +kernel
theorem dX8_walkList_98 : decode cX8_walkList 98 = .ok (.aload_n 0, 1) := by decide +kernel
theorem dX8_walkList_99 : decode cX8_walkList 99 = .ok (.aload_n 0, 1) := by decide +kernel
theorem dX8_walkList_100 : decode cX8_walkList 100 = .ok (.getfield 24, 3) := by decide +kernel
theorem dX8_walkList_103 : decode cX8_walkList 103 = .ok (.putfield 47, 3) := by decide +kernel
theorem dX8_walkList_106 : decode cX8_walkList 106 = .ok (.aload_n 0, 1) := by decide +kernel
theorem dX8_walkList_107 : decode cX8_walkList 107 = .ok (.iconst 0, 1) := by decide +kernel
theorem dX8_walkList_108 : decode cX8_walkList 108 = .ok (.putfield 24, 3) := by decide +kernel
theorem dX8_walkList_111 : decode cX8_walkList 111 = .ok (.iload_n 2, 1) := by decide +kernel
theorem dX8_walkList_112 : decode cX8_walkList 112 = .ok (.ireturn, 1) := by decide +kernel
theorem dX8_leastOn_0 : decode cX8_leastOn 0 = .ok (.ldc 50, 2) := by decide +kernel
theorem dX8_leastOn_2 : decode cX8_leastOn 2 = .ok (.istore_n 3, 1) := by decide +kernel
theorem dX8_leastOn_3 : decode cX8_leastOn 3 = .ok (.iconst 0, 1) := by decide +kernel
theorem dX8_leastOn_4 : decode cX8_leastOn 4 = .ok (.istore 4, 2) := by decide +kernel
theorem dX8_leastOn_6 : decode cX8_leastOn 6 = .ok (.iload 4, 2) := by decide +kernel
theorem dX8_leastOn_8 : decode cX8_leastOn 8 = .ok (.aload_n 0, 1) := by decide +kernel
theorem dX8_leastOn_9 : decode cX8_leastOn 9 = .ok (.getfield 24, 3) := by decide +kernel
theorem dX8_leastOn_12 : decode cX8_leastOn 12 = .ok (.if_icmp .ge 31, 3) := by decide +kernel
theorem dX8_leastOn_15 : decode cX8_leastOn 15 = .ok (.iload 4, 2) := by decide +kernel
theorem dX8_leastOn_17 : decode cX8_leastOn 17 = .ok (.iload_n 1, 1) := by decide +kernel
theorem dX8_leastOn_18 : decode cX8_leastOn 18 = .ok (.invokestatic 31, 3) := by decide +kernel
theorem dX8_leastOn_21 : decode cX8_leastOn 21 = .ok (.ifCond .ne 16, 3) := by decide +kernel
theorem dX8_leastOn_24 : decode cX8_leastOn 24 = .ok (.iload_n 3, 1) := by decide +kernel
theorem dX8_leastOn_25 : decode cX8_leastOn 25 = .ok (.aload_n 0, 1) := by decide +kernel
theorem dX8_leastOn_26 : decode cX8_leastOn 26 = .ok (.iload_n 1, 1) := by decide +kernel
theorem dX8_leastOn_27 : decode cX8_leastOn 27 = .ok (.iload_n 2, 1) := by decide +kernel
theorem dX8_leastOn_28 : decode cX8_leastOn 28 = .ok (.iload 4, 2) := by decide +kernel
theorem dX8_leastOn_30 : decode cX8_leastOn 30 = .ok (.invokevirtual 51, 3) := by decide +kernel
theorem dX8_leastOn_33 : decode cX8_leastOn 33 = .ok (.invokestatic 55, 3) := by decide +kernel
theorem dX8_leastOn_36 : decode cX8_leastOn 36 = .ok (.istore_n 3, 1) := by decide +kernel
theorem dX8_leastOn_37 : decode cX8_leastOn 37 = .ok (.iinc 4 1, 3) := by decide +kernel
theorem dX8_leastOn_40 : decode cX8_leastOn 40 = .ok (.goto (-34), 3) := by decide +kernel
theorem dX8_leastOn_43 : decode cX8_leastOn 43 = .ok (.iload_n 3, 1) := by decide +kernel
theorem dX8_leastOn_44 : decode cX8_leastOn 44 = .ok (.ireturn, 1) := by decide +kernel
theorem dX8_retrace_0 : decode cX8_retrace 0 = .ok (.iconst 0, 1) := by decide +kernel
theorem dX8_retrace_1 : decode cX8_retrace 1 = .ok (.istore_n 2, 1) := by decide +kernel
theorem dX8_retrace_2 : decode cX8_retrace 2 = .ok (.iconst (-1), 1) := by decide +kernel
theorem dX8_retrace_3 : decode cX8_retrace 3 = .ok (.istore_n 3, 1) := by decide +kernel
theorem dX8_retrace_4 : decode cX8_retrace 4 = .ok (.iload_n 1, 1) := by decide +kernel
theorem dX8_retrace_5 : decode cX8_retrace 5 = .ok (.istore 4, 2) := by decide +kernel
theorem dX8_retrace_7 : decode cX8_retrace 7 = .ok (.iconst 0, 1) := by decide +kernel
theorem dX8_retrace_8 : decode cX8_retrace 8 = .ok (.istore 5, 2) := by decide +kernel
theorem dX8_retrace_10 : decode cX8_retrace 10 = .ok (.iload 5, 2) := by decide +kernel
theorem dX8_retrace_12 : decode cX8_retrace 12 = .ok (.aload_n 0, 1) := by decide +kernel
theorem dX8_retrace_13 : decode cX8_retrace 13 = .ok (.getfield 24, 3) := by decide +kernel
theorem dX8_retrace_16 : decode cX8_retrace 16 = .ok (.if_icmp .ge 59, 3) := by decide +kernel
theorem dX8_retrace_19 : decode cX8_retrace 19 = .ok (.aload_n 0, 1) := by decide +kernel
theorem dX8_retrace_20 : decode cX8_retrace 20 = .ok (.iload_n 2, 1) := by decide +kernel
theorem dX8_retrace_21 : decode cX8_retrace 21 = .ok (.iload_n 3, 1) := by decide +kernel
theorem dX8_retrace_22 : decode cX8_retrace 22 = .ok (.iload 4, 2) := by decide +kernel
theorem dX8_retrace_24 : decode cX8_retrace 24 = .ok (.invokevirtual 60, 3) := by decide +kernel
theorem dX8_retrace_27 : decode cX8_retrace 27 = .ok (.istore 6, 2) := by decide +kernel
theorem dX8_retrace_29 : decode cX8_retrace 29 = .ok (.aload_n 0, 1) := by decide +kernel
theorem dX8_retrace_30 : decode cX8_retrace 30 = .ok (.getfield 9, 3) := by decide +kernel
theorem dX8_retrace_33 : decode cX8_retrace 33 = .ok (.iload 5, 2) := by decide +kernel
theorem dX8_retrace_35 : decode cX8_retrace 35 = .ok (.aload_n 0, 1) := by decide +kernel
theorem dX8_retrace_36 : decode cX8_retrace 36 = .ok (.getfield 17, 3) := by decide +kernel
theorem dX8_retrace_39 : decode cX8_retrace 39 = .ok (.iload 6, 2) := by decide +kernel
theorem dX8_retrace_41 : decode cX8_retrace 41 = .ok (.aaload, 1) := by decide +kernel
theorem dX8_retrace_42 : decode cX8_retrace 42 = .ok (.getfield 28, 3) := by decide +kernel
theorem dX8_retrace_45 : decode cX8_retrace 45 = .ok (.iastore, 1) := by decide +kernel
theorem dX8_retrace_46 : decode cX8_retrace 46 = .ok (.iload_n 2, 1) := by decide +kernel
theorem dX8_retrace_47 : decode cX8_retrace 47 = .ok (.iconst 1, 1) := by decide +kernel
theorem dX8_retrace_48 : decode cX8_retrace 48 = .ok (.iload 6, 2) := by decide +kernel
theorem dX8_retrace_50 : decode cX8_retrace 50 = .ok (.ishl, 1) := by decide +kernel
theorem dX8_retrace_51 : decode cX8_retrace 51 = .ok (.ior, 1) := by decide +kernel
theorem dX8_retrace_52 : decode cX8_retrace 52 = .ok (.istore_n 2, 1) := by decide +kernel
theorem dX8_retrace_53 : decode cX8_retrace 53 = .ok (.iload 6, 2) := by decide +kernel
theorem dX8_retrace_55 : decode cX8_retrace 55 = .ok (.istore_n 3, 1) := by decide +kernel
theorem dX8_retrace_56 : decode cX8_retrace 56 = .ok (.aload_n 0, 1) := by decide +kernel
theorem dX8_retrace_57 : decode cX8_retrace 57 = .ok (.getfield 21, 3) := by decide +kernel
theorem dX8_retrace_60 : decode cX8_retrace 60 = .ok (.iload_n 2, 1) := by decide +kernel
theorem dX8_retrace_61 : decode cX8_retrace 61 = .ok (.bipush 8, 2) := by decide +kernel
theorem dX8_retrace_63 : decode cX8_retrace 63 = .ok (.imul, 1) := by decide +kernel
theorem dX8_retrace_64 : decode cX8_retrace 64 = .ok (.iload_n 3, 1) := by decide +kernel
theorem dX8_retrace_65 : decode cX8_retrace 65 = .ok (.iadd, 1) := by decide +kernel
theorem dX8_retrace_66 : decode cX8_retrace 66 = .ok (.iaload, 1) := by decide +kernel
theorem dX8_retrace_67 : decode cX8_retrace 67 = .ok (.istore 4, 2) := by decide +kernel
theorem dX8_retrace_69 : decode cX8_retrace 69 = .ok (.iinc 5 1, 3) := by decide +kernel
theorem dX8_retrace_72 : decode cX8_retrace 72 = .ok (.goto (-62), 3) := by decide +kernel
theorem dX8_retrace_75 : decode cX8_retrace 75 = .ok (.return_, 1) := by decide +kernel
theorem dX8_firstOnWay_0 : decode cX8_firstOnWay 0 = .ok (.iconst 0, 1) := by decide +kernel
theorem dX8_firstOnWay_1 : decode cX8_firstOnWay 1 = .ok (.istore 4, 2) := by decide +kernel
theorem dX8_firstOnWay_3 : decode cX8_firstOnWay 3 = .ok (.iload 4, 2) := by decide +kernel
theorem dX8_firstOnWay_5 : decode cX8_firstOnWay 5 = .ok (.aload_n 0, 1) := by decide +kernel
theorem dX8_firstOnWay_6 : decode cX8_firstOnWay 6 = .ok (.getfield 24, 3) := by decide +kernel
theorem dX8_firstOnWay_9 : decode cX8_firstOnWay 9 = .ok (.if_icmp .ge 33, 3) := by decide +kernel
theorem dX8_firstOnWay_12 : decode cX8_firstOnWay 12 = .ok (.iload 4, 2) := by decide +kernel
theorem dX8_firstOnWay_14 : decode cX8_firstOnWay 14 = .ok (.iload_n 1, 1) := by decide +kernel
theorem dX8_firstOnWay_15 : decode cX8_firstOnWay 15 = .ok (.invokestatic 31, 3) := by decide +kernel
theorem dX8_firstOnWay_18 : decode cX8_firstOnWay 18 = .ok (.ifCond .ne 18, 3) := by decide +kernel
theorem dX8_firstOnWay_21 : decode cX8_firstOnWay 21 = .ok (.aload_n 0, 1) := by decide +kernel
theorem dX8_firstOnWay_22 : decode cX8_firstOnWay 22 = .ok (.iload_n 1, 1) := by decide +kernel
theorem dX8_firstOnWay_23 : decode cX8_firstOnWay 23 = .ok (.iload_n 2, 1) := by decide +kernel
theorem dX8_firstOnWay_24 : decode cX8_firstOnWay 24 = .ok (.iload 4, 2) := by decide +kernel
theorem dX8_firstOnWay_26 : decode cX8_firstOnWay 26 = .ok (.invokevirtual 51, 3) := by decide +kernel
theorem dX8_firstOnWay_29 : decode cX8_firstOnWay 29 = .ok (.iload_n 3, 1) := by decide +kernel
theorem dX8_firstOnWay_30 : decode cX8_firstOnWay 30 = .ok (.if_icmp .ne 6, 3) := by decide +kernel
theorem dX8_firstOnWay_33 : decode cX8_firstOnWay 33 = .ok (.iload 4, 2) := by decide +kernel
theorem dX8_firstOnWay_35 : decode cX8_firstOnWay 35 = .ok (.ireturn, 1) := by decide +kernel
theorem dX8_firstOnWay_36 : decode cX8_firstOnWay 36 = .ok (.iinc 4 1, 3) := by decide +kernel
theorem dX8_firstOnWay_39 : decode cX8_firstOnWay 39 = .ok (.goto (-36), 3) := by decide +kernel
theorem dX8_firstOnWay_42 : decode cX8_firstOnWay 42 = .ok (.iconst 0, 1) := by decide +kernel
theorem dX8_firstOnWay_43 : decode cX8_firstOnWay 43 = .ok (.ireturn, 1) := by decide +kernel
theorem dX8_stepsBy_0 : decode cX8_stepsBy 0 = .ok (.iload_n 2, 1) := by decide +kernel
theorem dX8_stepsBy_1 : decode cX8_stepsBy 1 = .ok (.iconst (-1), 1) := by decide +kernel
theorem dX8_stepsBy_2 : decode cX8_stepsBy 2 = .ok (.if_icmp .ne 11, 3) := by decide +kernel
theorem dX8_stepsBy_5 : decode cX8_stepsBy 5 = .ok (.aload_n 0, 1) := by decide +kernel
theorem dX8_stepsBy_6 : decode cX8_stepsBy 6 = .ok (.iload_n 3, 1) := by decide +kernel
theorem dX8_stepsBy_7 : decode cX8_stepsBy 7 = .ok (.invokevirtual 35, 3) := by decide +kernel
theorem dX8_stepsBy_10 : decode cX8_stepsBy 10 = .ok (.goto 24, 3) := by decide +kernel
theorem dX8_stepsBy_13 : decode cX8_stepsBy 13 = .ok (.aload_n 0, 1) := by decide +kernel
theorem dX8_stepsBy_14 : decode cX8_stepsBy 14 = .ok (.getfield 17, 3) := by decide +kernel
theorem dX8_stepsBy_17 : decode cX8_stepsBy 17 = .ok (.iload_n 2, 1) := by decide +kernel
theorem dX8_stepsBy_18 : decode cX8_stepsBy 18 = .ok (.aaload, 1) := by decide +kernel
theorem dX8_stepsBy_19 : decode cX8_stepsBy 19 = .ok (.getfield 63, 3) := by decide +kernel
theorem dX8_stepsBy_22 : decode cX8_stepsBy 22 = .ok (.aload_n 0, 1) := by decide +kernel
theorem dX8_stepsBy_23 : decode cX8_stepsBy 23 = .ok (.getfield 17, 3) := by decide +kernel
theorem dX8_stepsBy_26 : decode cX8_stepsBy 26 = .ok (.iload_n 3, 1) := by decide +kernel
theorem dX8_stepsBy_27 : decode cX8_stepsBy 27 = .ok (.aaload, 1) := by decide +kernel
theorem dX8_stepsBy_28 : decode cX8_stepsBy 28 = .ok (.getfield 63, 3) := by decide +kernel
theorem dX8_stepsBy_31 : decode cX8_stepsBy 31 = .ok (.invokestatic 67, 3) := by decide +kernel
theorem dX8_stepsBy_34 : decode cX8_stepsBy 34 = .ok (.istore 4, 2) := by decide +kernel
theorem dX8_stepsBy_36 : decode cX8_stepsBy 36 = .ok (.iload 4, 2) := by decide +kernel
theorem dX8_stepsBy_38 : decode cX8_stepsBy 38 = .ok (.aload_n 0, 1) := by decide +kernel
theorem dX8_stepsBy_39 : decode cX8_stepsBy 39 = .ok (.getfield 21, 3) := by decide +kernel
theorem dX8_stepsBy_42 : decode cX8_stepsBy 42 = .ok (.iload_n 1, 1) := by decide +kernel
theorem dX8_stepsBy_43 : decode cX8_stepsBy 43 = .ok (.iconst 1, 1) := by decide +kernel
theorem dX8_stepsBy_44 : decode cX8_stepsBy 44 = .ok (.iload_n 3, 1) := by decide +kernel
theorem dX8_stepsBy_45 : decode cX8_stepsBy 45 = .ok (.ishl, 1) := by decide +kernel
theorem dX8_stepsBy_46 : decode cX8_stepsBy 46 = .ok (.ior, 1) := by decide +kernel
theorem dX8_stepsBy_47 : decode cX8_stepsBy 47 = .ok (.bipush 8, 2) := by decide +kernel
theorem dX8_stepsBy_49 : decode cX8_stepsBy 49 = .ok (.imul, 1) := by decide +kernel
theorem dX8_stepsBy_50 : decode cX8_stepsBy 50 = .ok (.iload_n 3, 1) := by decide +kernel
theorem dX8_stepsBy_51 : decode cX8_stepsBy 51 = .ok (.iadd, 1) := by decide +kernel
theorem dX8_stepsBy_52 : decode cX8_stepsBy 52 = .ok (.iaload, 1) := by decide +kernel
theorem dX8_stepsBy_53 : decode cX8_stepsBy 53 = .ok (.iadd, 1) := by decide +kernel
theorem dX8_stepsBy_54 : decode cX8_stepsBy 54 = .ok (.ireturn, 1) := by decide +kernel
theorem dX8_isIn_0 : decode cX8_isIn 0 = .ok (.iload_n 1, 1) := by decide +kernel
theorem dX8_isIn_1 : decode cX8_isIn 1 = .ok (.iload_n 0, 1) := by decide +kernel
theorem dX8_isIn_2 : decode cX8_isIn 2 = .ok (.ishr, 1) := by decide +kernel
theorem dX8_isIn_3 : decode cX8_isIn 3 = .ok (.iconst 1, 1) := by decide +kernel
theorem dX8_isIn_4 : decode cX8_isIn 4 = .ok (.iand, 1) := by decide +kernel
theorem dX8_isIn_5 : decode cX8_isIn 5 = .ok (.iconst 1, 1) := by decide +kernel
theorem dX8_isIn_6 : decode cX8_isIn 6 = .ok (.if_icmp .ne 7, 3) := by decide +kernel
theorem dX8_isIn_9 : decode cX8_isIn 9 = .ok (.iconst 1, 1) := by decide +kernel
theorem dX8_isIn_10 : decode cX8_isIn 10 = .ok (.goto 4, 3) := by decide +kernel
theorem dX8_isIn_13 : decode cX8_isIn 13 = .ok (.iconst 0, 1) := by decide +kernel
theorem dX8_isIn_14 : decode cX8_isIn 14 = .ok (.ireturn, 1) := by decide +kernel
theorem dX8_fromCourt_0 : decode cX8_fromCourt 0 = .ok (.aload_n 0, 1) := by decide +kernel
theorem dX8_fromCourt_1 : decode cX8_fromCourt 1 = .ok (.getfield 17, 3) := by decide +kernel
theorem dX8_fromCourt_4 : decode cX8_fromCourt 4 = .ok (.iload_n 1, 1) := by decide +kernel
theorem dX8_fromCourt_5 : decode cX8_fromCourt 5 = .ok (.aaload, 1) := by decide +kernel
theorem dX8_fromCourt_6 : decode cX8_fromCourt 6 = .ok (.getfield 63, 3) := by decide +kernel
theorem dX8_fromCourt_9 : decode cX8_fromCourt 9 = .ok (.astore_n 2, 1) := by decide +kernel
theorem dX8_fromCourt_10 : decode cX8_fromCourt 10 = .ok (.aload_n 2, 1) := by decide +kernel
theorem dX8_fromCourt_11 : decode cX8_fromCourt 11 = .ok (.getfield 71, 3) := by decide +kernel
theorem dX8_fromCourt_14 : decode cX8_fromCourt 14 = .ok (.bipush 50, 2) := by decide +kernel
theorem dX8_fromCourt_16 : decode cX8_fromCourt 16 = .ok (.isub, 1) := by decide +kernel
theorem dX8_fromCourt_17 : decode cX8_fromCourt 17 = .ok (.invokestatic 76, 3) := by decide +kernel
theorem dX8_fromCourt_20 : decode cX8_fromCourt 20 = .ok (.aload_n 2, 1) := by decide +kernel
theorem dX8_fromCourt_21 : decode cX8_fromCourt 21 = .ok (.getfield 79, 3) := by decide +kernel
theorem dX8_fromCourt_24 : decode cX8_fromCourt 24 = .ok (.bipush 50, 2) := by decide +kernel
theorem dX8_fromCourt_26 : decode cX8_fromCourt 26 = .ok (.isub, 1) := by decide +kernel
theorem dX8_fromCourt_27 : decode cX8_fromCourt 27 = .ok (.invokestatic 76, 3) := by decide +kernel
theorem dX8_fromCourt_30 : decode cX8_fromCourt 30 = .ok (.iadd, 1) := by decide +kernel
theorem dX8_fromCourt_31 : decode cX8_fromCourt 31 = .ok (.ireturn, 1) := by decide +kernel
theorem dX8_between_0 : decode cX8_between 0 = .ok (.aload_n 0, 1) := by decide +kernel
theorem dX8_between_1 : decode cX8_between 1 = .ok (.getfield 71, 3) := by decide +kernel
theorem dX8_between_4 : decode cX8_between 4 = .ok (.aload_n 1, 1) := by decide +kernel
theorem dX8_between_5 : decode cX8_between 5 = .ok (.getfield 71, 3) := by decide +kernel
theorem dX8_between_8 : decode cX8_between 8 = .ok (.isub, 1) := by decide +kernel
theorem dX8_between_9 : decode cX8_between 9 = .ok (.invokestatic 76, 3) := by decide +kernel
theorem dX8_between_12 : decode cX8_between 12 = .ok (.aload_n 0, 1) := by decide +kernel
theorem dX8_between_13 : decode cX8_between 13 = .ok (.getfield 79, 3) := by decide +kernel
theorem dX8_between_16 : decode cX8_between 16 = .ok (.aload_n 1, 1) := by decide +kernel
theorem dX8_between_17 : decode cX8_between 17 = .ok (.getfield 79, 3) := by decide +kernel
theorem dX8_between_20 : decode cX8_between 20 = .ok (.isub, 1) := by decide +kernel
theorem dX8_between_21 : decode cX8_between 21 = .ok (.invokestatic 76, 3) := by decide +kernel
theorem dX8_between_24 : decode cX8_between 24 = .ok (.iadd, 1) := by decide +kernel
theorem dX8_between_25 : decode cX8_between 25 = .ok (.ireturn, 1) := by decide +kernel
theorem dX9_init_0 : decode cX9_init 0 = .ok (.aload_n 0, 1) := by decide +kernel
theorem dX9_init_1 : decode cX9_init 1 = .ok (.invokespecial 3, 3) := by decide +kernel
theorem dX9_init_4 : decode cX9_init 4 = .ok (.aload_n 0, 1) := by decide +kernel
theorem dX9_init_5 : decode cX9_init 5 = .ok (.sipush 400, 3) := by decide +kernel
theorem dX9_init_8 : decode cX9_init 8 = .ok (.newarray .byte, 2) := by decide +kernel
theorem dX9_init_10 : decode cX9_init 10 = .ok (.putfield 9, 3) := by decide +kernel
theorem dX9_init_13 : decode cX9_init 13 = .ok (.aload_n 0, 1) := by decide +kernel
theorem dX9_init_14 : decode cX9_init 14 = .ok (.new 13, 3) := by decide +kernel
theorem dX9_init_17 : decode cX9_init 17 = .ok (.dup, 1) := by decide +kernel
theorem dX9_init_18 : decode cX9_init 18 = .ok (.invokespecial 15, 3) := by decide +kernel
theorem dX9_init_21 : decode cX9_init 21 = .ok (.putfield 16, 3) := by decide +kernel
theorem dX9_init_24 : decode cX9_init 24 = .ok (.aload_n 0, 1) := by decide +kernel
theorem dX9_init_25 : decode cX9_init 25 = .ok (.new 20, 3) := by decide +kernel
theorem dX9_init_28 : decode cX9_init 28 = .ok (.dup, 1) := by decide +kernel
theorem dX9_init_29 : decode cX9_init 29 = .ok (.iconst (-1), 1) := by decide +kernel
theorem dX9_init_30 : decode cX9_init 30 = .ok (.iconst (-1), 1) := by decide +kernel
theorem dX9_init_31 : decode cX9_init 31 = .ok (.invokespecial 22, 3) := by decide +kernel
theorem dX9_init_34 : decode cX9_init 34 = .ok (.putfield 25, 3) := by decide +kernel
theorem dX9_init_37 : decode cX9_init 37 = .ok (.aload_n 0, 1) := by decide +kernel
theorem dX9_init_38 : decode cX9_init 38 = .ok (.bipush 8, 2) := by decide +kernel
theorem dX9_init_40 : decode cX9_init 40 = .ok (.anewarray 20, 3) := by decide +kernel
theorem dX9_init_43 : decode cX9_init 43 = .ok (.putfield 29, 3) := by decide +kernel
theorem dX9_init_46 : decode cX9_init 46 = .ok (.aload_n 0, 1) := by decide +kernel
theorem dX9_init_47 : decode cX9_init 47 = .ok (.bipush 40, 2) := by decide +kernel
theorem dX9_init_49 : decode cX9_init 49 = .ok (.anewarray 33, 3) := by decide +kernel
theorem dX9_init_52 : decode cX9_init 52 = .ok (.putfield 35, 3) := by decide +kernel
theorem dX9_init_55 : decode cX9_init 55 = .ok (.aload_n 0, 1) := by decide +kernel
theorem dX9_init_56 : decode cX9_init 56 = .ok (.new 39, 3) := by decide +kernel
theorem dX9_init_59 : decode cX9_init 59 = .ok (.dup, 1) := by decide +kernel
theorem dX9_init_60 : decode cX9_init 60 = .ok (.invokespecial 41, 3) := by decide +kernel
theorem dX9_init_63 : decode cX9_init 63 = .ok (.putfield 42, 3) := by decide +kernel
theorem dX9_init_66 : decode cX9_init 66 = .ok (.aload_n 0, 1) := by decide +kernel
theorem dX9_init_67 : decode cX9_init 67 = .ok (.bipush 100, 2) := by decide +kernel
theorem dX9_init_69 : decode cX9_init 69 = .ok (.anewarray 46, 3) := by decide +kernel
theorem dX9_init_72 : decode cX9_init 72 = .ok (.putfield 48, 3) := by decide +kernel
theorem dX9_init_75 : decode cX9_init 75 = .ok (.aload_n 0, 1) := by decide +kernel
theorem dX9_init_76 : decode cX9_init 76 = .ok (.bipush 100, 2) := by decide +kernel
theorem dX9_init_78 : decode cX9_init 78 = .ok (.anewarray 46, 3) := by decide +kernel
theorem dX9_init_81 : decode cX9_init 81 = .ok (.putfield 52, 3) := by decide +kernel
theorem dX9_init_84 : decode cX9_init 84 = .ok (.aload_n 0, 1) := by decide +kernel
theorem dX9_init_85 : decode cX9_init 85 = .ok (.new 55, 3) := by decide +kernel
theorem dX9_init_88 : decode cX9_init 88 = .ok (.dup, 1) := by decide +kernel
theorem dX9_init_89 : decode cX9_init 89 = .ok (.invokespecial 57, 3) := by decide +kernel
theorem dX9_init_92 : decode cX9_init 92 = .ok (.putfield 58, 3) := by decide +kernel
theorem dX9_init_95 : decode cX9_init 95 = .ok (.aload_n 0, 1) := by decide +kernel
theorem dX9_init_96 : decode cX9_init 96 = .ok (.bipush 40, 2) := by decide +kernel
theorem dX9_init_98 : decode cX9_init 98 = .ok (.newarray .int, 2) := by decide +kernel
theorem dX9_init_100 : decode cX9_init 100 = .ok (.putfield 62, 3) := by decide +kernel
theorem dX9_init_103 : decode cX9_init 103 = .ok (.aload_n 0, 1) := by decide +kernel
theorem dX9_init_104 : decode cX9_init 104 = .ok (.bipush 100, 2) := by decide +kernel
theorem dX9_init_106 : decode cX9_init 106 = .ok (.newarray .int, 2) := by decide +kernel
theorem dX9_init_108 : decode cX9_init 108 = .ok (.putfield 66, 3) := by decide +kernel
theorem dX9_init_111 : decode cX9_init 111 = .ok (.aload_n 0, 1) := by decide +kernel
theorem dX9_init_112 : decode cX9_init 112 = .ok (.new 69, 3) := by decide +kernel
theorem dX9_init_115 : decode cX9_init 115 = .ok (.dup, 1) := by decide +kernel
theorem dX9_init_116 : decode cX9_init 116 = .ok (.invokespecial 71, 3) := by decide +kernel
theorem dX9_init_119 : decode cX9_init 119 = .ok (.putfield 72, 3) := by decide +kernel
theorem dX9_init_122 : decode cX9_init 122 = .ok (.aload_n 0, 1) := by decide +kernel
theorem dX9_init_123 : decode cX9_init 123 = .ok (.new 76, 3) := by decide +kernel
theorem dX9_init_126 : decode cX9_init 126 = .ok (.dup, 1) := by decide +kernel
theorem dX9_init_127 : decode cX9_init 127 = .ok (.invokespecial 78, 3) := by decide +kernel
theorem dX9_init_130 : decode cX9_init 130 = .ok (.putfield 79, 3) := by decide +kernel
theorem dX9_init_133 : decode cX9_init 133 = .ok (.aload_n 0, 1) := by decide +kernel
theorem dX9_init_134 : decode cX9_init 134 = .ok (.new 83, 3) := by decide +kernel
theorem dX9_init_137 : decode cX9_init 137 = .ok (.dup, 1) := by decide +kernel
theorem dX9_init_138 : decode cX9_init 138 = .ok (.invokespecial 85, 3) := by decide +kernel
theorem dX9_init_141 : decode cX9_init 141 = .ok (.putfield 86, 3) := by decide +kernel
theorem dX9_init_144 : decode cX9_init 144 = .ok (.return_, 1) := by decide +kernel
theorem dX9_clock_0 : decode cX9_clock 0 = .ok (.iload_n 1, 1) := by decide +kernel
theorem dX9_clock_1 : decode cX9_clock 1 = .ok (.invokestatic 90, 3) := by decide +kernel
theorem dX9_clock_4 : decode cX9_clock 4 = .ok (.ifCond .eq 11, 3) := by decide +kernel
theorem dX9_clock_7 : decode cX9_clock 7 = .ok (.iload_n 1, 1) := by decide +kernel
theorem dX9_clock_8 : decode cX9_clock 8 = .ok (.aload_n 0, 1) := by decide +kernel
theorem dX9_clock_9 : decode cX9_clock 9 = .ok (.getfield 94, 3) := by decide +kernel
theorem dX9_clock_12 : decode cX9_clock 12 = .ok (.if_icmp .ge 5, 3) := by decide +kernel
theorem dX9_clock_15 : decode cX9_clock 15 = .ok (.iconst 0, 1) := by decide +kernel
theorem dX9_clock_16 : decode cX9_clock 16 = .ok (.ireturn, 1) := by decide +kernel
theorem dX9_clock_17 : decode cX9_clock 17 = .ok (.aload_n 0, 1) := by decide +kernel
theorem dX9_clock_18 : decode cX9_clock 18 = .ok (.iload_n 1, 1) := by decide +kernel
theorem dX9_clock_19 : decode cX9_clock 19 = .ok (.putfield 94, 3) := by decide +kernel
theorem dX9_clock_22 : decode cX9_clock 22 = .ok (.iconst 1, 1) := by decide +kernel
theorem dX9_clock_23 : decode cX9_clock 23 = .ok (.ireturn, 1) := by decide +kernel
theorem dX9_feed_0 : decode cX9_feed 0 = .ok (.aload_n 0, 1) := by decide +kernel
theorem dX9_feed_1 : decode cX9_feed 1 = .ok (.getfield 98, 3) := by decide +kernel
theorem dX9_feed_4 : decode cX9_feed 4 = .ok (.bipush 20, 2) := by decide +kernel
theorem dX9_feed_6 : decode cX9_feed 6 = .ok (.iadd, 1) := by decide +kernel
theorem dX9_feed_7 : decode cX9_feed 7 = .ok (.sipush 400, 3) := by decide +kernel
theorem dX9_feed_10 : decode cX9_feed 10 = .ok (.if_icmp .le 5, 3) := by decide +kernel
theorem dX9_feed_13 : decode cX9_feed 13 = .ok (.iconst (-1), 1) := by decide +kernel
theorem dX9_feed_14 : decode cX9_feed 14 = .ok (.ireturn, 1) := by decide +kernel
theorem dX9_feed_15 : decode cX9_feed 15 = .ok (.aload_n 0, 1) := by decide +kernel
theorem dX9_feed_16 : decode cX9_feed 16 = .ok (.iload_n 1, 1) := by decide +kernel
theorem dX9_feed_17 : decode cX9_feed 17 = .ok (.invokevirtual 101, 3) := by decide +kernel
theorem dX9_feed_20 : decode cX9_feed 20 = .ok (.aload_n 0, 1) := by decide +kernel
theorem dX9_feed_21 : decode cX9_feed 21 = .ok (.iload_n 2, 1) := by decide +kernel
theorem dX9_feed_22 : decode cX9_feed 22 = .ok (.invokevirtual 101, 3) := by decide +kernel
theorem dX9_feed_25 : decode cX9_feed 25 = .ok (.aload_n 0, 1) := by decide +kernel
theorem dX9_feed_26 : decode cX9_feed 26 = .ok (.iload_n 3, 1) := by decide +kernel
theorem dX9_feed_27 : decode cX9_feed 27 = .ok (.invokevirtual 101, 3) := by decide +kernel
theorem dX9_feed_30 : decode cX9_feed 30 = .ok (.aload_n 0, 1) := by decide +kernel
theorem dX9_feed_31 : decode cX9_feed 31 = .ok (.iload 4, 2) := by decide +kernel
theorem dX9_feed_33 : decode cX9_feed 33 = .ok (.invokevirtual 101, 3) := by decide +kernel
theorem dX9_feed_36 : decode cX9_feed 36 = .ok (.aload_n 0, 1) := by decide +kernel
theorem dX9_feed_37 : decode cX9_feed 37 = .ok (.iload 5, 2) := by decide +kernel
theorem dX9_feed_39 : decode cX9_feed 39 = .ok (.invokevirtual 101, 3) := by decide +kernel
theorem dX9_feed_42 : decode cX9_feed 42 = .ok (.aload_n 0, 1) := by decide +kernel
theorem dX9_feed_43 : decode cX9_feed 43 = .ok (.getfield 98, 3) := by decide +kernel
theorem dX9_feed_46 : decode cX9_feed 46 = .ok (.ireturn, 1) := by decide +kernel
theorem dX9_feedBytes_0 : decode cX9_feedBytes 0 = .ok (.bipush 24, 2) := by decide +kernel
theorem dX9_feedBytes_2 : decode cX9_feedBytes 2 = .ok (.istore_n 2, 1) := by decide +kernel
theorem dX9_feedBytes_3 : decode cX9_feedBytes 3 = .ok (.iload_n 2, 1) := by decide +kernel
theorem dX9_feedBytes_4 : decode cX9_feedBytes 4 = .ok (.ifCond .lt 42, 3) := by decide +kernel
theorem dX9_feedBytes_7 : decode cX9_feedBytes 7 = .ok (.aload_n 0, 1) := by decide +kernel
theorem dX9_feedBytes_8 : decode cX9_feedBytes 8 = .ok (.getfield 98, 3) := by decide +kernel
theorem dX9_feedBytes_11 : decode cX9_feedBytes 11 = .ok (.sipush 400, 3) := by decide +kernel
theorem dX9_feedBytes_14 : decode cX9_feedBytes 14 = .ok (.if_icmp .ge 32, 3) := by decide +kernel
theorem dX9_feedBytes_17 : decode cX9_feedBytes 17 = .ok (.aload_n 0, 1) := by decide +kernel
theorem dX9_feedBytes_18 : decode cX9_feedBytes 18 = .ok (.getfield 9, 3) := by decide +kernel
theorem dX9_feedBytes_21 : decode cX9_feedBytes 21 = .ok (.aload_n 0, 1) := by decide +kernel
theorem dX9_feedBytes_22 : decode cX9_feedBytes 22 = .ok (.getfield 98, 3) := by decide +kernel
theorem dX9_feedBytes_25 : decode cX9_feedBytes 25 = .ok (.iload_n 1, 1) := by decide +kernel
theorem dX9_feedBytes_26 : decode cX9_feedBytes 26 = .ok (.iload_n 2, 1) := by decide +kernel
theorem dX9_feedBytes_27 : decode cX9_feedBytes 27 = .ok (.ishr, 1) := by decide +kernel
theorem dX9_feedBytes_28 : decode cX9_feedBytes 28 = .ok (.i2b, 1) := by decide +kernel
theorem dX9_feedBytes_29 : decode cX9_feedBytes 29 = .ok (.bastore, 1) := by decide +kernel
theorem dX9_feedBytes_30 : decode cX9_feedBytes 30 = .ok (.aload_n 0, 1) := by decide +kernel
theorem dX9_feedBytes_31 : decode cX9_feedBytes 31 = .ok (.dup, 1) := by decide +kernel
theorem dX9_feedBytes_32 : decode cX9_feedBytes 32 = .ok (.getfield 98, 3) := by decide +kernel
theorem dX9_feedBytes_35 : decode cX9_feedBytes 35 = .ok (.iconst 1, 1) := by decide +kernel
theorem dX9_feedBytes_36 : decode cX9_feedBytes 36 = .ok (.iadd, 1) := by decide +kernel
theorem dX9_feedBytes_37 : decode cX9_feedBytes 37 = .ok (.putfield 98, 3) := by decide +kernel
theorem dX9_feedBytes_40 : decode cX9_feedBytes 40 = .ok (.iinc 2 (-8), 3) := by decide +kernel
theorem dX9_feedBytes_43 : decode cX9_feedBytes 43 = .ok (.goto (-40), 3) := by decide +kernel
theorem dX9_feedBytes_46 : decode cX9_feedBytes 46 = .ok (.return_, 1) := by decide +kernel
theorem dX9_end_0 : decode cX9_end 0 = .ok (.iload_n 1, 1) := by decide +kernel
theorem dX9_end_1 : decode cX9_end 1 = .ok (.ifCond .lt 11, 3) := by decide +kernel
theorem dX9_end_4 : decode cX9_end 4 = .ok (.iload_n 1, 1) := by decide +kernel
theorem dX9_end_5 : decode cX9_end 5 = .ok (.aload_n 0, 1) := by decide +kernel
theorem dX9_end_6 : decode cX9_end 6 = .ok (.getfield 98, 3) := by decide +kernel
theorem dX9_end_9 : decode cX9_end 9 = .ok (.if_icmp .le 5, 3) := by decide +kernel
theorem dX9_end_12 : decode cX9_end 12 = .ok (.iconst (-1), 1) := by decide +kernel
theorem dX9_end_13 : decode cX9_end 13 = .ok (.ireturn, 1) := by decide +kernel
theorem dX9_end_14 : decode cX9_end 14 = .ok (.aload_n 0, 1) := by decide +kernel
theorem dX9_end_15 : decode cX9_end 15 = .ok (.iload_n 1, 1) := by decide +kernel
theorem dX9_end_16 : decode cX9_end 16 = .ok (.putfield 98, 3) := by decide +kernel
theorem dX9_end_19 : decode cX9_end 19 = .ok (.iload_n 1, 1) := by decide +kernel
theorem dX9_end_20 : decode cX9_end 20 = .ok (.ireturn, 1) := by decide +kernel
theorem dX9_act_0 : decode cX9_act 0 = .ok (.aload_n 0, 1) := by decide +kernel
theorem dX9_act_1 : decode cX9_act 1 = .ok (.getfield 105, 3) := by decide +kernel
theorem dX9_act_4 : decode cX9_act 4 = .ok (.bipush 8, 2) := by decide +kernel
theorem dX9_act_6 : decode cX9_act 6 = .ok (.if_icmp .ge 10, 3) := by decide +kernel
theorem dX9_act_9 : decode cX9_act 9 = .ok (.iload_n 1, 1) := by decide +kernel
theorem dX9_act_10 : decode cX9_act 10 = .ok (.invokestatic 90, 3) := by decide +kernel
theorem dX9_act_13 : decode cX9_act 13 = .ok (.ifCond .ne 5, 3) := by decide +kernel
theorem dX9_act_16 : decode cX9_act 16 = .ok (.iconst (-1), 1) := by decide +kernel
theorem dX9_act_17 : decode cX9_act 17 = .ok (.ireturn, 1) := by decide +kernel
theorem dX9_act_18 : decode cX9_act 18 = .ok (.new 20, 3) := by decide +kernel
theorem dX9_act_21 : decode cX9_act 21 = .ok (.dup, 1) := by decide +kernel
theorem dX9_act_22 : decode cX9_act 22 = .ok (.aload_n 0, 1) := by decide +kernel
theorem dX9_act_23 : decode cX9_act 23 = .ok (.getfield 105, 3) := by decide +kernel
theorem dX9_act_26 : decode cX9_act 26 = .ok (.iload_n 1, 1) := by decide +kernel
theorem dX9_act_27 : decode cX9_act 27 = .ok (.invokespecial 22, 3) := by decide +kernel
theorem dX9_act_30 : decode cX9_act 30 = .ok (.astore_n 2, 1) := by decide +kernel
theorem dX9_act_31 : decode cX9_act 31 = .ok (.aload_n 0, 1) := by decide +kernel
theorem dX9_act_32 : decode cX9_act 32 = .ok (.getfield 16, 3) := by decide +kernel
theorem dX9_act_35 : decode cX9_act 35 = .ok (.aload_n 0, 1) := by decide +kernel
theorem dX9_act_36 : decode cX9_act 36 = .ok (.getfield 9, 3) := by decide +kernel
theorem dX9_act_39 : decode cX9_act 39 = .ok (.aload_n 0, 1) := by decide +kernel
theorem dX9_act_40 : decode cX9_act 40 = .ok (.getfield 98, 3) := by decide +kernel
theorem dX9_act_43 : decode cX9_act 43 = .ok (.aload_n 2, 1) := by decide +kernel
theorem dX9_act_44 : decode cX9_act 44 = .ok (.invokevirtual 108, 3) := by decide +kernel
theorem dX9_act_47 : decode cX9_act 47 = .ok (.istore_n 3, 1) := by decide +kernel
theorem dX9_act_48 : decode cX9_act 48 = .ok (.aload_n 0, 1) := by decide +kernel
theorem dX9_act_49 : decode cX9_act 49 = .ok (.iconst 0, 1) := by decide +kernel
theorem dX9_act_50 : decode cX9_act 50 = .ok (.putfield 98, 3) := by decide +kernel
theorem dX9_act_53 : decode cX9_act 53 = .ok (.iload_n 3, 1) := by decide +kernel
theorem dX9_act_54 : decode cX9_act 54 = .ok (.ifCond .eq 8, 3) := by decide +kernel
theorem dX9_act_57 : decode cX9_act 57 = .ok (.bipush (-2), 2) := by decide +kernel
theorem dX9_act_59 : decode cX9_act 59 = .ok (.iload_n 3, 1) := by decide +kernel
theorem dX9_act_60 : decode cX9_act 60 = .ok (.isub, 1) := by decide +kernel
theorem dX9_act_61 : decode cX9_act 61 = .ok (.ireturn, 1) := by decide +kernel
theorem dX9_act_62 : decode cX9_act 62 = .ok (.aload_n 0, 1) := by decide +kernel
theorem dX9_act_63 : decode cX9_act 63 = .ok (.getfield 29, 3) := by decide +kernel
theorem dX9_act_66 : decode cX9_act 66 = .ok (.aload_n 0, 1) := by decide +kernel
theorem dX9_act_67 : decode cX9_act 67 = .ok (.getfield 105, 3) := by decide +kernel
theorem dX9_act_70 : decode cX9_act 70 = .ok (.aload_n 2, 1) := by decide +kernel
theorem dX9_act_71 : decode cX9_act 71 = .ok (.aastore, 1) := by decide +kernel
theorem dX9_act_72 : decode cX9_act 72 = .ok (.aload_n 0, 1) := by decide +kernel
theorem dX9_act_73 : decode cX9_act 73 = .ok (.dup, 1) := by decide +kernel
theorem dX9_act_74 : decode cX9_act 74 = .ok (.getfield 105, 3) := by decide +kernel
theorem dX9_act_77 : decode cX9_act 77 = .ok (.iconst 1, 1) := by decide +kernel
theorem dX9_act_78 : decode cX9_act 78 = .ok (.iadd, 1) := by decide +kernel
theorem dX9_act_79 : decode cX9_act 79 = .ok (.putfield 105, 3) := by decide +kernel
theorem dX9_act_82 : decode cX9_act 82 = .ok (.aload_n 2, 1) := by decide +kernel
theorem dX9_act_83 : decode cX9_act 83 = .ok (.getfield 112, 3) := by decide +kernel
theorem dX9_act_86 : decode cX9_act 86 = .ok (.ireturn, 1) := by decide +kernel
theorem dX9_force_0 : decode cX9_force 0 = .ok (.iload_n 1, 1) := by decide +kernel
theorem dX9_force_1 : decode cX9_force 1 = .ok (.invokestatic 90, 3) := by decide +kernel
theorem dX9_force_4 : decode cX9_force 4 = .ok (.ifCond .eq 13, 3) := by decide +kernel
theorem dX9_force_7 : decode cX9_force 7 = .ok (.iload_n 2, 1) := by decide +kernel
theorem dX9_force_8 : decode cX9_force 8 = .ok (.ifCond .lt 9, 3) := by decide +kernel
theorem dX9_force_11 : decode cX9_force 11 = .ok (.iload_n 2, 1) := by decide +kernel
theorem dX9_force_12 : decode cX9_force 12 = .ok (.bipush 14, 2) := by decide +kernel
theorem dX9_force_14 : decode cX9_force 14 = .ok (.if_icmp .lt 5, 3) := by decide +kernel
theorem dX9_force_17 : decode cX9_force 17 = .ok (.iconst (-1), 1) := by decide +kernel
theorem dX9_force_18 : decode cX9_force 18 = .ok (.ireturn, 1) := by decide +kernel
theorem dX9_force_19 : decode cX9_force 19 = .ok (.aload_n 0, 1) := by decide +kernel
theorem dX9_force_20 : decode cX9_force 20 = .ok (.iload_n 1, 1) := by decide +kernel
theorem dX9_force_21 : decode cX9_force 21 = .ok (.invokevirtual 115, 3) := by decide +kernel
theorem dX9_force_24 : decode cX9_force 24 = .ok (.astore_n 3, 1) := by decide +kernel
theorem dX9_force_25 : decode cX9_force 25 = .ok (.iload_n 2, 1) := by decide +kernel
theorem dX9_force_26 : decode cX9_force 26 = .ok (.ifCond .ne 10, 3) := by decide +kernel
theorem dX9_force_29 : decode cX9_force 29 = .ok (.aload_n 3, 1) := by decide +kernel
theorem dX9_force_30 : decode cX9_force 30 = .ok (.getfield 112, 3) := by decide +kernel
theorem dX9_force_33 : decode cX9_force 33 = .ok (.goto 9, 3) := by decide +kernel
theorem dX9_force_36 : decode cX9_force 36 = .ok (.aload_n 3, 1) := by decide +kernel
theorem dX9_force_37 : decode cX9_force 37 = .ok (.getfield 119, 3) := by decide +kernel
theorem dX9_force_40 : decode cX9_force 40 = .ok (.iload_n 2, 1) := by decide +kernel
theorem dX9_force_41 : decode cX9_force 41 = .ok (.iaload, 1) := by decide +kernel
theorem dX9_force_42 : decode cX9_force 42 = .ok (.ireturn, 1) := by decide +kernel
theorem dX9_inForce_0 : decode cX9_inForce 0 = .ok (.aload_n 0, 1) := by decide +kernel
theorem dX9_inForce_1 : decode cX9_inForce 1 = .ok (.getfield 25, 3) := by decide +kernel
theorem dX9_inForce_4 : decode cX9_inForce 4 = .ok (.astore_n 2, 1) := by decide +kernel
theorem dX9_inForce_5 : decode cX9_inForce 5 = .ok (.iconst 0, 1) := by decide +kernel
theorem dX9_inForce_6 : decode cX9_inForce 6 = .ok (.istore_n 3, 1) := by decide +kernel
theorem dX9_inForce_7 : decode cX9_inForce 7 = .ok (.iload_n 3, 1) := by decide +kernel
theorem dX9_inForce_8 : decode cX9_inForce 8 = .ok (.aload_n 0, 1) := by decide +kernel
theorem dX9_inForce_9 : decode cX9_inForce 9 = .ok (.getfield 105, 3) := by decide +kernel
theorem dX9_inForce_12 : decode cX9_inForce 12 = .ok (.if_icmp .ge 45, 3) := by decide +kernel
theorem dX9_inForce_15 : decode cX9_inForce 15 = .ok (.aload_n 0, 1) := by decide +kernel
theorem dX9_inForce_16 : decode cX9_inForce 16 = .ok (.getfield 29, 3) := by decide +kernel
theorem dX9_inForce_19 : decode cX9_inForce 19 = .ok (.iload_n 3, 1) := by decide +kernel
theorem dX9_inForce_20 : decode cX9_inForce 20 = .ok (.aaload, 1) := by decide +kernel
theorem dX9_inForce_21 : decode cX9_inForce 21 = .ok (.getfield 122, 3) := by decide +kernel
theorem dX9_inForce_24 : decode cX9_inForce 24 = .ok (.iload_n 1, 1) := by decide +kernel
theorem dX9_inForce_25 : decode cX9_inForce 25 = .ok (.if_icmp .gt 26, 3) := by decide +kernel
theorem dX9_inForce_28 : decode cX9_inForce 28 = .ok (.aload_n 0, 1) := by decide +kernel
theorem dX9_inForce_29 : decode cX9_inForce 29 = .ok (.getfield 29, 3) := by decide +kernel
theorem dX9_inForce_32 : decode cX9_inForce 32 = .ok (.iload_n 3, 1) := by decide +kernel
theorem dX9_inForce_33 : decode cX9_inForce 33 = .ok (.aaload, 1) := by decide +kernel
theorem dX9_inForce_34 : decode cX9_inForce 34 = .ok (.getfield 122, 3) := by decide +kernel
theorem dX9_inForce_37 : decode cX9_inForce 37 = .ok (.aload_n 2, 1) := by decide +kernel
theorem dX9_inForce_38 : decode cX9_inForce 38 = .ok (.getfield 122, 3) := by decide +kernel
theorem dX9_inForce_41 : decode cX9_inForce 41 = .ok (.if_icmp .lt 10, 3) := by decide +kernel
theorem dX9_inForce_44 : decode cX9_inForce 44 = .ok (.aload_n 0, 1) := by decide +kernel
theorem dX9_inForce_45 : decode cX9_inForce 45 = .ok (.getfield 29, 3) := by decide +kernel
theorem dX9_inForce_48 : decode cX9_inForce 48 = .ok (.iload_n 3, 1) := by decide +kernel
theorem dX9_inForce_49 : decode cX9_inForce 49 = .ok (.aaload, 1) := by decide +kernel
theorem dX9_inForce_50 : decode cX9_inForce 50 = .ok (.astore_n 2, 1) := by decide +kernel
theorem dX9_inForce_51 : decode cX9_inForce 51 = .ok (.iinc 3 1, 3) := by decide +kernel
theorem dX9_inForce_54 : decode cX9_inForce 54 = .ok (.goto (-47), 3) := by decide +kernel
theorem dX9_inForce_57 : decode cX9_inForce 57 = .ok (.aload_n 2, 1) := by decide +kernel
theorem dX9_inForce_58 : decode cX9_inForce 58 = .ok (.areturn, 1) := by decide +kernel
theorem dX9_person_0 : decode cX9_person 0 = .ok (.aload_n 0, 1) := by decide +kernel
theorem dX9_person_1 : decode cX9_person 1 = .ok (.getfield 125, 3) := by decide +kernel
theorem dX9_person_4 : decode cX9_person 4 = .ok (.bipush 40, 2) := by decide +kernel
theorem dX9_person_6 : decode cX9_person 6 = .ok (.if_icmp .ge 39, 3) := by decide +kernel
theorem dX9_person_9 : decode cX9_person 9 = .ok (.iload_n 1, 1) := by decide +kernel
theorem dX9_person_10 : decode cX9_person 10 = .ok (.sipush (-30000), 3) := by decide +kernel
theorem dX9_person_13 : decode cX9_person 13 = .ok (.sipush 7999, 3) := by decide +kernel
theorem dX9_person_16 : decode cX9_person 16 = .ok (.invokestatic 128, 3) := by decide +kernel
theorem dX9_person_19 : decode cX9_person 19 = .ok (.ifCond .eq 26, 3) := by decide +kernel
theorem dX9_person_22 : decode cX9_person 22 = .ok (.iload_n 2, 1) := by decide +kernel
theorem dX9_person_23 : decode cX9_person 23 = .ok (.iload_n 3, 1) := by decide +kernel
theorem dX9_person_24 : decode cX9_person 24 = .ok (.iload 4, 2) := by decide +kernel
theorem dX9_person_26 : decode cX9_person 26 = .ok (.iload 5, 2) := by decide +kernel
theorem dX9_person_28 : decode cX9_person 28 = .ok (.invokestatic 132, 3) := by decide +kernel
theorem dX9_person_31 : decode cX9_person 31 = .ok (.ifCond .eq 14, 3) := by decide +kernel
theorem dX9_person_34 : decode cX9_person 34 = .ok (.iload 6, 2) := by decide +kernel
theorem dX9_person_36 : decode cX9_person 36 = .ok (.iconst (-1), 1) := by decide +kernel
theorem dX9_person_37 : decode cX9_person 37 = .ok (.bipush 19, 2) := by decide +kernel
theorem dX9_person_39 : decode cX9_person 39 = .ok (.invokestatic 128, 3) := by decide +kernel
theorem dX9_person_42 : decode cX9_person 42 = .ok (.ifCond .ne 5, 3) := by decide +kernel
theorem dX9_person_45 : decode cX9_person 45 = .ok (.iconst (-1), 1) := by decide +kernel
theorem dX9_person_46 : decode cX9_person 46 = .ok (.ireturn, 1) := by decide +kernel
theorem dX9_person_47 : decode cX9_person 47 = .ok (.new 33, 3) := by decide +kernel
theorem dX9_person_50 : decode cX9_person 50 = .ok (.dup, 1) := by decide +kernel
theorem dX9_person_51 : decode cX9_person 51 = .ok (.aload_n 0, 1) := by decide +kernel
theorem dX9_person_52 : decode cX9_person 52 = .ok (.getfield 125, 3) := by decide +kernel
theorem dX9_person_55 : decode cX9_person 55 = .ok (.iload_n 1, 1) := by decide +kernel
theorem dX9_person_56 : decode cX9_person 56 = .ok (.iload 6, 2) := by decide +kernel
theorem dX9_person_58 : decode cX9_person 58 = .ok (.invokespecial 136, 3) := by decide +kernel
theorem dX9_person_61 : decode cX9_person 61 = .ok (.astore 7, 2) := by decide +kernel
theorem dX9_person_63 : decode cX9_person 63 = .ok (.aload 7, 2) := by decide +kernel
theorem dX9_person_65 : decode cX9_person 65 = .ok (.iload_n 2, 1) := by decide +kernel
theorem dX9_person_66 : decode cX9_person 66 = .ok (.iload_n 3, 1) := by decide +kernel
theorem dX9_person_67 : decode cX9_person 67 = .ok (.iload 4, 2) := by decide +kernel
theorem dX9_person_69 : decode cX9_person 69 = .ok (.iload 5, 2) := by decide +kernel
theorem dX9_person_71 : decode cX9_person 71 = .ok (.invokevirtual 139, 3) := by decide +kernel
theorem dX9_person_74 : decode cX9_person 74 = .ok (.aload_n 0, 1) := by decide +kernel
theorem dX9_person_75 : decode cX9_person 75 = .ok (.getfield 35, 3) := by decide +kernel
theorem dX9_person_78 : decode cX9_person 78 = .ok (.aload_n 0, 1) := by decide +kernel
theorem dX9_person_79 : decode cX9_person 79 = .ok (.getfield 125, 3) := by decide +kernel
theorem dX9_person_82 : decode cX9_person 82 = .ok (.aload 7, 2) := by decide +kernel
theorem dX9_person_84 : decode cX9_person 84 = .ok (.aastore, 1) := by decide +kernel
theorem dX9_person_85 : decode cX9_person 85 = .ok (.aload_n 0, 1) := by decide +kernel
theorem dX9_person_86 : decode cX9_person 86 = .ok (.dup, 1) := by decide +kernel
theorem dX9_person_87 : decode cX9_person 87 = .ok (.getfield 125, 3) := by decide +kernel
theorem dX9_person_90 : decode cX9_person 90 = .ok (.iconst 1, 1) := by decide +kernel
theorem dX9_person_91 : decode cX9_person 91 = .ok (.iadd, 1) := by decide +kernel
theorem dX9_person_92 : decode cX9_person 92 = .ok (.putfield 125, 3) := by decide +kernel
theorem dX9_person_95 : decode cX9_person 95 = .ok (.aload 7, 2) := by decide +kernel
theorem dX9_person_97 : decode cX9_person 97 = .ok (.getfield 143, 3) := by decide +kernel
theorem dX9_person_100 : decode cX9_person 100 = .ok (.ireturn, 1) := by decide +kernel
theorem dX9_anew_0 : decode cX9_anew 0 = .ok (.aload_n 0, 1) := by decide +kernel
theorem dX9_anew_1 : decode cX9_anew 1 = .ok (.iload_n 1, 1) := by decide +kernel
theorem dX9_anew_2 : decode cX9_anew 2 = .ok (.invokevirtual 144, 3) := by decide +kernel
theorem dX9_anew_5 : decode cX9_anew 5 = .ok (.astore 6, 2) := by decide +kernel
theorem dX9_anew_7 : decode cX9_anew 7 = .ok (.aload 6, 2) := by decide +kernel
theorem dX9_anew_9 : decode cX9_anew 9 = .ok (.ifnull 23, 3) := by decide +kernel
theorem dX9_anew_12 : decode cX9_anew 12 = .ok (.aload 6, 2) := by decide +kernel
theorem dX9_anew_14 : decode cX9_anew 14 = .ok (.getfield 148, 3) := by decide +kernel
theorem dX9_anew_17 : decode cX9_anew 17 = .ok (.ifCond .ne 15, 3) := by decide +kernel
theorem dX9_anew_20 : decode cX9_anew 20 = .ok (.iload_n 2, 1) := by decide +kernel
theorem dX9_anew_21 : decode cX9_anew 21 = .ok (.iload_n 3, 1) := by decide +kernel
theorem dX9_anew_22 : decode cX9_anew 22 = .ok (.iload 4, 2) := by decide +kernel
theorem dX9_anew_24 : decode cX9_anew 24 = .ok (.iload 5, 2) := by decide +kernel
theorem dX9_anew_26 : decode cX9_anew 26 = .ok (.invokestatic 132, 3) := by decide +kernel
theorem dX9_anew_29 : decode cX9_anew 29 = .ok (.ifCond .ne 5, 3) := by decide +kernel
theorem dX9_anew_32 : decode cX9_anew 32 = .ok (.iconst 0, 1) := by decide +kernel
theorem dX9_anew_33 : decode cX9_anew 33 = .ok (.ireturn, 1) := by decide +kernel
theorem dX9_anew_34 : decode cX9_anew 34 = .ok (.aload 6, 2) := by decide +kernel
theorem dX9_anew_36 : decode cX9_anew 36 = .ok (.iload_n 2, 1) := by decide +kernel
theorem dX9_anew_37 : decode cX9_anew 37 = .ok (.iload_n 3, 1) := by decide +kernel
theorem dX9_anew_38 : decode cX9_anew 38 = .ok (.iload 4, 2) := by decide +kernel
theorem dX9_anew_40 : decode cX9_anew 40 = .ok (.iload 5, 2) := by decide +kernel
theorem dX9_anew_42 : decode cX9_anew 42 = .ok (.invokevirtual 139, 3) := by decide +kernel
theorem dX9_anew_45 : decode cX9_anew 45 = .ok (.iconst 1, 1) := by decide +kernel
theorem dX9_anew_46 : decode cX9_anew 46 = .ok (.ireturn, 1) := by decide +kernel
theorem dX9_dies_0 : decode cX9_dies 0 = .ok (.aload_n 0, 1) := by decide +kernel
theorem dX9_dies_1 : decode cX9_dies 1 = .ok (.iload_n 1, 1) := by decide +kernel
theorem dX9_dies_2 : decode cX9_dies 2 = .ok (.invokevirtual 144, 3) := by decide +kernel
theorem dX9_dies_5 : decode cX9_dies 5 = .ok (.astore_n 2, 1) := by decide +kernel
theorem dX9_dies_6 : decode cX9_dies 6 = .ok (.aload_n 2, 1) := by decide +kernel
theorem dX9_dies_7 : decode cX9_dies 7 = .ok (.ifnull 10, 3) := by decide +kernel
theorem dX9_dies_10 : decode cX9_dies 10 = .ok (.aload_n 2, 1) := by decide +kernel
theorem dX9_dies_11 : decode cX9_dies 11 = .ok (.getfield 148, 3) := by decide +kernel
theorem dX9_dies_14 : decode cX9_dies 14 = .ok (.ifCond .eq 5, 3) := by decide +kernel
theorem dX9_dies_17 : decode cX9_dies 17 = .ok (.iconst 0, 1) := by decide +kernel
theorem dX9_dies_18 : decode cX9_dies 18 = .ok (.ireturn, 1) := by decide +kernel
theorem dX9_dies_19 : decode cX9_dies 19 = .ok (.aload_n 2, 1) := by decide +kernel
theorem dX9_dies_20 : decode cX9_dies 20 = .ok (.iconst 1, 1) := by decide +kernel
theorem dX9_dies_21 : decode cX9_dies 21 = .ok (.putfield 148, 3) := by decide +kernel
theorem dX9_dies_24 : decode cX9_dies 24 = .ok (.iconst 1, 1) := by decide +kernel
theorem dX9_dies_25 : decode cX9_dies 25 = .ok (.ireturn, 1) := by decide +kernel
theorem dX9_judge_0 : decode cX9_judge 0 = .ok (.aload_n 0, 1) := by decide +kernel
theorem dX9_judge_1 : decode cX9_judge 1 = .ok (.iload_n 1, 1) := by decide +kernel
theorem dX9_judge_2 : decode cX9_judge 2 = .ok (.invokevirtual 144, 3) := by decide +kernel
theorem dX9_judge_5 : decode cX9_judge 5 = .ok (.astore_n 3, 1) := by decide +kernel
theorem dX9_judge_6 : decode cX9_judge 6 = .ok (.aload_n 3, 1) := by decide +kernel
theorem dX9_judge_7 : decode cX9_judge 7 = .ok (.ifnull 11, 3) := by decide +kernel
theorem dX9_judge_10 : decode cX9_judge 10 = .ok (.aload_n 3, 1) := by decide +kernel
theorem dX9_judge_11 : decode cX9_judge 11 = .ok (.getfield 152, 3) := by decide +kernel
theorem dX9_judge_14 : decode cX9_judge 14 = .ok (.iload_n 2, 1) := by decide +kernel
theorem dX9_judge_15 : decode cX9_judge 15 = .ok (.if_icmp .ne 5, 3) := by decide +kernel
theorem dX9_judge_18 : decode cX9_judge 18 = .ok (.iconst 0, 1) := by decide +kernel
theorem dX9_judge_19 : decode cX9_judge 19 = .ok (.ireturn, 1) := by decide +kernel
theorem dX9_judge_20 : decode cX9_judge 20 = .ok (.aload_n 3, 1) := by decide +kernel
theorem dX9_judge_21 : decode cX9_judge 21 = .ok (.iload_n 2, 1) := by decide +kernel
theorem dX9_judge_22 : decode cX9_judge 22 = .ok (.putfield 152, 3) := by decide +kernel
theorem dX9_judge_25 : decode cX9_judge 25 = .ok (.aload_n 3, 1) := by decide +kernel
theorem dX9_judge_26 : decode cX9_judge 26 = .ok (.iconst 1, 1) := by decide +kernel
theorem dX9_judge_27 : decode cX9_judge 27 = .ok (.putfield 155, 3) := by decide +kernel
theorem dX9_judge_30 : decode cX9_judge 30 = .ok (.iconst 1, 1) := by decide +kernel
theorem dX9_judge_31 : decode cX9_judge 31 = .ok (.ireturn, 1) := by decide +kernel
theorem dX9_line_0 : decode cX9_line 0 = .ok (.aload_n 0, 1) := by decide +kernel
theorem dX9_line_1 : decode cX9_line 1 = .ok (.getfield 42, 3) := by decide +kernel
theorem dX9_line_4 : decode cX9_line 4 = .ok (.getfield 158, 3) := by decide +kernel
theorem dX9_line_7 : decode cX9_line 7 = .ok (.sipush 400, 3) := by decide +kernel
theorem dX9_line_10 : decode cX9_line 10 = .ok (.if_icmp .ge 46, 3) := by decide +kernel
theorem dX9_line_13 : decode cX9_line 13 = .ok (.aload_n 0, 1) := by decide +kernel
theorem dX9_line_14 : decode cX9_line 14 = .ok (.iload_n 1, 1) := by decide +kernel
theorem dX9_line_15 : decode cX9_line 15 = .ok (.iload_n 2, 1) := by decide +kernel
theorem dX9_line_16 : decode cX9_line 16 = .ok (.invokevirtual 161, 3) := by decide +kernel
theorem dX9_line_19 : decode cX9_line 19 = .ok (.ifCond .eq 37, 3) := by decide +kernel
theorem dX9_line_22 : decode cX9_line 22 = .ok (.iload_n 3, 1) := by decide +kernel
theorem dX9_line_23 : decode cX9_line 23 = .ok (.iconst 0, 1) := by decide +kernel
theorem dX9_line_24 : decode cX9_line 24 = .ok (.aload_n 0, 1) := by decide +kernel
theorem dX9_line_25 : decode cX9_line 25 = .ok (.getfield 94, 3) := by decide +kernel
theorem dX9_line_28 : decode cX9_line 28 = .ok (.invokestatic 128, 3) := by decide +kernel
theorem dX9_line_31 : decode cX9_line 31 = .ok (.ifCond .eq 25, 3) := by decide +kernel
theorem dX9_line_34 : decode cX9_line 34 = .ok (.iload 4, 2) := by decide +kernel
theorem dX9_line_36 : decode cX9_line 36 = .ok (.iconst 0, 1) := by decide +kernel
theorem dX9_line_37 : decode cX9_line 37 = .ok (.iconst 3, 1) := by decide +kernel
theorem dX9_line_38 : decode cX9_line 38 = .ok (.invokestatic 128, 3) := by decide +kernel
theorem dX9_line_41 : decode cX9_line 41 = .ok (.ifCond .eq 15, 3) := by decide +kernel
theorem dX9_line_44 : decode cX9_line 44 = .ok (.iload 5, 2) := by decide +kernel
theorem dX9_line_46 : decode cX9_line 46 = .ok (.iconst 1, 1) := by decide +kernel
theorem dX9_line_47 : decode cX9_line 47 = .ok (.sipush 9999, 3) := by decide +kernel
theorem dX9_line_50 : decode cX9_line 50 = .ok (.invokestatic 128, 3) := by decide +kernel
theorem dX9_line_53 : decode cX9_line 53 = .ok (.ifCond .ne 5, 3) := by decide +kernel
theorem dX9_line_56 : decode cX9_line 56 = .ok (.iconst (-1), 1) := by decide +kernel
theorem dX9_line_57 : decode cX9_line 57 = .ok (.ireturn, 1) := by decide +kernel
theorem dX9_line_58 : decode cX9_line 58 = .ok (.aload_n 0, 1) := by decide +kernel
theorem dX9_line_59 : decode cX9_line 59 = .ok (.getfield 42, 3) := by decide +kernel
theorem dX9_line_62 : decode cX9_line 62 = .ok (.iload_n 1, 1) := by decide +kernel
theorem dX9_line_63 : decode cX9_line 63 = .ok (.iload_n 2, 1) := by decide +kernel
theorem dX9_line_64 : decode cX9_line 64 = .ok (.iload_n 3, 1) := by decide +kernel
theorem dX9_line_65 : decode cX9_line 65 = .ok (.iload 4, 2) := by decide +kernel
theorem dX9_line_67 : decode cX9_line 67 = .ok (.iload 5, 2) := by decide +kernel
theorem dX9_line_69 : decode cX9_line 69 = .ok (.invokevirtual 165, 3) := by decide +kernel
theorem dX9_line_72 : decode cX9_line 72 = .ok (.aload_n 0, 1) := by decide +kernel
theorem dX9_line_73 : decode cX9_line 73 = .ok (.getfield 42, 3) := by decide +kernel
theorem dX9_line_76 : decode cX9_line 76 = .ok (.getfield 158, 3) := by decide +kernel
theorem dX9_line_79 : decode cX9_line 79 = .ok (.ireturn, 1) := by decide +kernel
theorem dX9_book_0 : decode cX9_book 0 = .ok (.aload_n 0, 1) := by decide +kernel
theorem dX9_book_1 : decode cX9_book 1 = .ok (.iload_n 1, 1) := by decide +kernel
theorem dX9_book_2 : decode cX9_book 2 = .ok (.iload_n 2, 1) := by decide +kernel
theorem dX9_book_3 : decode cX9_book 3 = .ok (.invokevirtual 161, 3) := by decide +kernel
theorem dX9_book_6 : decode cX9_book 6 = .ok (.ifCond .eq 10, 3) := by decide +kernel
theorem dX9_book_9 : decode cX9_book 9 = .ok (.iload_n 3, 1) := by decide +kernel
theorem dX9_book_10 : decode cX9_book 10 = .ok (.invokestatic 90, 3) := by decide +kernel
theorem dX9_book_13 : decode cX9_book 13 = .ok (.ifCond .ne 6, 3) := by decide +kernel
theorem dX9_book_16 : decode cX9_book 16 = .ok (.ldc 169, 2) := by decide +kernel
theorem dX9_book_18 : decode cX9_book 18 = .ok (.ireturn, 1) := by decide +kernel
theorem dX9_book_19 : decode cX9_book 19 = .ok (.iload 4, 2) := by decide +kernel
theorem dX9_book_21 : decode cX9_book 21 = .ok (.tableswitch 58 0 2 #[27, 38, 49], 27) := by decide +kernel
theorem dX9_book_48 : decode cX9_book 48 = .ok (.aload_n 0, 1) := by decide +kernel
theorem dX9_book_49 : decode cX9_book 49 = .ok (.getfield 42, 3) := by decide +kernel
theorem dX9_book_52 : decode cX9_book 52 = .ok (.iload_n 1, 1) := by decide +kernel
theorem dX9_book_53 : decode cX9_book 53 = .ok (.iload_n 2, 1) := by decide +kernel
theorem dX9_book_54 : decode cX9_book 54 = .ok (.iload_n 3, 1) := by decide +kernel
theorem dX9_book_55 : decode cX9_book 55 = .ok (.invokevirtual 170, 3) := by decide +kernel
theorem dX9_book_58 : decode cX9_book 58 = .ok (.ireturn, 1) := by decide +kernel
theorem dX9_book_59 : decode cX9_book 59 = .ok (.aload_n 0, 1) := by decide +kernel
theorem dX9_book_60 : decode cX9_book 60 = .ok (.getfield 42, 3) := by decide +kernel
theorem dX9_book_63 : decode cX9_book 63 = .ok (.iload_n 1, 1) := by decide +kernel
theorem dX9_book_64 : decode cX9_book 64 = .ok (.iload_n 2, 1) := by decide +kernel
theorem dX9_book_65 : decode cX9_book 65 = .ok (.iload_n 3, 1) := by decide +kernel
theorem dX9_book_66 : decode cX9_book 66 = .ok (.invokevirtual 174, 3) := by decide +kernel
theorem dX9_book_69 : decode cX9_book 69 = .ok (.ireturn, 1) := by decide +kernel
theorem dX9_book_70 : decode cX9_book 70 = .ok (.aload_n 0, 1) := by decide +kernel
theorem dX9_book_71 : decode cX9_book 71 = .ok (.getfield 42, 3) := by decide +kernel
theorem dX9_book_74 : decode cX9_book 74 = .ok (.iload_n 1, 1) := by decide +kernel
theorem dX9_book_75 : decode cX9_book 75 = .ok (.invokevirtual 177, 3) := by decide +kernel
theorem dX9_book_78 : decode cX9_book 78 = .ok (.ireturn, 1) := by decide +kernel
theorem dX9_book_79 : decode cX9_book 79 = .ok (.ldc 169, 2) := by decide +kernel
theorem dX9_book_81 : decode cX9_book 81 = .ok (.ireturn, 1) := by decide +kernel
theorem dX9_file_0 : decode cX9_file 0 = .ok (.aload_n 0, 1) := by decide +kernel
theorem dX9_file_1 : decode cX9_file 1 = .ok (.iload_n 1, 1) := by decide +kernel
theorem dX9_file_2 : decode cX9_file 2 = .ok (.invokevirtual 144, 3) := by decide +kernel
theorem dX9_file_5 : decode cX9_file 5 = .ok (.astore 7, 2) := by decide +kernel
theorem dX9_file_7 : decode cX9_file 7 = .ok (.aload_n 0, 1) := by decide +kernel
theorem dX9_file_8 : decode cX9_file 8 = .ok (.iload_n 2, 1) := by decide +kernel
theorem dX9_file_9 : decode cX9_file 9 = .ok (.invokevirtual 144, 3) := by decide +kernel
theorem dX9_file_12 : decode cX9_file 12 = .ok (.astore 8, 2) := by decide +kernel
theorem dX9_file_14 : decode cX9_file 14 = .ok (.aload_n 0, 1) := by decide +kernel
theorem dX9_file_15 : decode cX9_file 15 = .ok (.getfield 181, 3) := by decide +kernel
theorem dX9_file_18 : decode cX9_file 18 = .ok (.bipush 100, 2) := by decide +kernel
theorem dX9_file_20 : decode cX9_file 20 = .ok (.if_icmp .ge 61, 3) := by decide +kernel
theorem dX9_file_23 : decode cX9_file 23 = .ok (.aload 7, 2) := by decide +kernel
theorem dX9_file_25 : decode cX9_file 25 = .ok (.ifnull 56, 3) := by decide +kernel
theorem dX9_file_28 : decode cX9_file 28 = .ok (.aload 8, 2) := by decide +kernel
theorem dX9_file_30 : decode cX9_file 30 = .ok (.ifnull 51, 3) := by decide +kernel
theorem dX9_file_33 : decode cX9_file 33 = .ok (.iload_n 1, 1) := by decide +kernel
theorem dX9_file_34 : decode cX9_file 34 = .ok (.iload_n 2, 1) := by decide +kernel
theorem dX9_file_35 : decode cX9_file 35 = .ok (.if_icmp .eq 46, 3) := by decide +kernel
theorem dX9_file_38 : decode cX9_file 38 = .ok (.aload 8, 2) := by decide +kernel
theorem dX9_file_40 : decode cX9_file 40 = .ok (.getfield 148, 3) := by decide +kernel
theorem dX9_file_43 : decode cX9_file 43 = .ok (.ifCond .ne 38, 3) := by decide +kernel
theorem dX9_file_46 : decode cX9_file 46 = .ok (.iload_n 3, 1) := by decide +kernel
theorem dX9_file_47 : decode cX9_file 47 = .ok (.iconst 1, 1) := by decide +kernel
theorem dX9_file_48 : decode cX9_file 48 = .ok (.sipush 9999, 3) := by decide +kernel
theorem dX9_file_51 : decode cX9_file 51 = .ok (.invokestatic 128, 3) := by decide +kernel
theorem dX9_file_54 : decode cX9_file 54 = .ok (.ifCond .eq 27, 3) := by decide +kernel
theorem dX9_file_57 : decode cX9_file 57 = .ok (.iload 4, 2) := by decide +kernel
theorem dX9_file_59 : decode cX9_file 59 = .ok (.iconst 0, 1) := by decide +kernel
theorem dX9_file_60 : decode cX9_file 60 = .ok (.aload_n 0, 1) := by decide +kernel
theorem dX9_file_61 : decode cX9_file 61 = .ok (.getfield 94, 3) := by decide +kernel
theorem dX9_file_64 : decode cX9_file 64 = .ok (.invokestatic 128, 3) := by decide +kernel
theorem dX9_file_67 : decode cX9_file 67 = .ok (.ifCond .eq 14, 3) := by decide +kernel
theorem dX9_file_70 : decode cX9_file 70 = .ok (.iload 6, 2) := by decide +kernel
theorem dX9_file_72 : decode cX9_file 72 = .ok (.iconst 0, 1) := by decide +kernel
theorem dX9_file_73 : decode cX9_file 73 = .ok (.bipush 9, 2) := by decide +kernel
theorem dX9_file_75 : decode cX9_file 75 = .ok (.invokestatic 128, 3) := by decide +kernel
theorem dX9_file_78 : decode cX9_file 78 = .ok (.ifCond .ne 5, 3) := by decide +kernel
theorem dX9_file_81 : decode cX9_file 81 = .ok (.iconst (-1), 1) := by decide +kernel
theorem dX9_file_82 : decode cX9_file 82 = .ok (.ireturn, 1) := by decide +kernel
theorem dX9_file_83 : decode cX9_file 83 = .ok (.new 46, 3) := by decide +kernel
theorem dX9_file_86 : decode cX9_file 86 = .ok (.dup, 1) := by decide +kernel
theorem dX9_file_87 : decode cX9_file 87 = .ok (.aload_n 0, 1) := by decide +kernel
theorem dX9_file_88 : decode cX9_file 88 = .ok (.getfield 181, 3) := by decide +kernel
theorem dX9_file_91 : decode cX9_file 91 = .ok (.aload 7, 2) := by decide +kernel
theorem dX9_file_93 : decode cX9_file 93 = .ok (.aload 8, 2) := by decide +kernel
theorem dX9_file_95 : decode cX9_file 95 = .ok (.aload_n 0, 1) := by decide +kernel
theorem dX9_file_96 : decode cX9_file 96 = .ok (.aload_n 0, 1) := by decide +kernel
theorem dX9_file_97 : decode cX9_file 97 = .ok (.getfield 94, 3) := by decide +kernel
theorem dX9_file_100 : decode cX9_file 100 = .ok (.invokevirtual 115, 3) := by decide +kernel
theorem dX9_file_103 : decode cX9_file 103 = .ok (.invokespecial 184, 3) := by decide +kernel
theorem dX9_file_106 : decode cX9_file 106 = .ok (.astore 9, 2) := by decide +kernel
theorem dX9_file_108 : decode cX9_file 108 = .ok (.aload 9, 2) := by decide +kernel
theorem dX9_file_110 : decode cX9_file 110 = .ok (.iload_n 3, 1) := by decide +kernel
theorem dX9_file_111 : decode cX9_file 111 = .ok (.putfield 187, 3) := by decide +kernel
theorem dX9_file_114 : decode cX9_file 114 = .ok (.aload 9, 2) := by decide +kernel
theorem dX9_file_116 : decode cX9_file 116 = .ok (.iload 4, 2) := by decide +kernel
theorem dX9_file_118 : decode cX9_file 118 = .ok (.putfield 190, 3) := by decide +kernel
theorem dX9_file_121 : decode cX9_file 121 = .ok (.aload 9, 2) := by decide +kernel
theorem dX9_file_123 : decode cX9_file 123 = .ok (.aload_n 0, 1) := by decide +kernel
theorem dX9_file_124 : decode cX9_file 124 = .ok (.getfield 94, 3) := by decide +kernel
theorem dX9_file_127 : decode cX9_file 127 = .ok (.putfield 193, 3) := by decide +kernel
theorem dX9_file_130 : decode cX9_file 130 = .ok (.aload 9, 2) := by decide +kernel
theorem dX9_file_132 : decode cX9_file 132 = .ok (.getfield 196, 3) := by decide +kernel
theorem dX9_file_135 : decode cX9_file 135 = .ok (.iconst 2, 1) := by decide +kernel
theorem dX9_file_136 : decode cX9_file 136 = .ok (.iload 5, 2) := by decide +kernel
theorem dX9_file_138 : decode cX9_file 138 = .ok (.ifCond .eq 7, 3) := by decide +kernel
theorem dX9_file_141 : decode cX9_file 141 = .ok (.iconst 1, 1) := by decide +kernel
theorem dX9_file_142 : decode cX9_file 142 = .ok (.goto 4, 3) := by decide +kernel
theorem dX9_file_145 : decode cX9_file 145 = .ok (.iconst 0, 1) := by decide +kernel
theorem dX9_file_146 : decode cX9_file 146 = .ok (.iastore, 1) := by decide +kernel
theorem dX9_file_147 : decode cX9_file 147 = .ok (.aload 9, 2) := by decide +kernel
theorem dX9_file_149 : decode cX9_file 149 = .ok (.getfield 196, 3) := by decide +kernel
theorem dX9_file_152 : decode cX9_file 152 = .ok (.iconst 3, 1) := by decide +kernel
theorem dX9_file_153 : decode cX9_file 153 = .ok (.iload 6, 2) := by decide +kernel
theorem dX9_file_155 : decode cX9_file 155 = .ok (.iastore, 1) := by decide +kernel
theorem dX9_file_156 : decode cX9_file 156 = .ok (.aload 9, 2) := by decide +kernel
theorem dX9_file_158 : decode cX9_file 158 = .ok (.getfield 196, 3) := by decide +kernel
theorem dX9_file_161 : decode cX9_file 161 = .ok (.bipush 7, 2) := by decide +kernel
theorem dX9_file_163 : decode cX9_file 163 = .ok (.iload_n 3, 1) := by decide +kernel
theorem dX9_file_164 : decode cX9_file 164 = .ok (.iastore, 1) := by decide +kernel
theorem dX9_file_165 : decode cX9_file 165 = .ok (.aload_n 0, 1) := by decide +kernel
theorem dX9_file_166 : decode cX9_file 166 = .ok (.getfield 48, 3) := by decide +kernel
theorem dX9_file_169 : decode cX9_file 169 = .ok (.aload_n 0, 1) := by decide +kernel
theorem dX9_file_170 : decode cX9_file 170 = .ok (.getfield 181, 3) := by decide +kernel
theorem dX9_file_173 : decode cX9_file 173 = .ok (.aload 9, 2) := by decide +kernel
theorem dX9_file_175 : decode cX9_file 175 = .ok (.aastore, 1) := by decide +kernel
theorem dX9_file_176 : decode cX9_file 176 = .ok (.aload_n 0, 1) := by decide +kernel
theorem dX9_file_177 : decode cX9_file 177 = .ok (.dup, 1) := by decide +kernel
theorem dX9_file_178 : decode cX9_file 178 = .ok (.getfield 181, 3) := by decide +kernel
theorem dX9_file_181 : decode cX9_file 181 = .ok (.iconst 1, 1) := by decide +kernel
theorem dX9_file_182 : decode cX9_file 182 = .ok (.iadd, 1) := by decide +kernel
theorem dX9_file_183 : decode cX9_file 183 = .ok (.putfield 181, 3) := by decide +kernel
theorem dX9_file_186 : decode cX9_file 186 = .ok (.aload 9, 2) := by decide +kernel
theorem dX9_file_188 : decode cX9_file 188 = .ok (.getfield 199, 3) := by decide +kernel
theorem dX9_file_191 : decode cX9_file 191 = .ok (.ireturn, 1) := by decide +kernel
theorem dX9_summons_0 : decode cX9_summons 0 = .ok (.aload_n 0, 1) := by decide +kernel
theorem dX9_summons_1 : decode cX9_summons 1 = .ok (.iload_n 1, 1) := by decide +kernel
theorem dX9_summons_2 : decode cX9_summons 2 = .ok (.invokevirtual 200, 3) := by decide +kernel
theorem dX9_summons_5 : decode cX9_summons 5 = .ok (.astore_n 3, 1) := by decide +kernel
theorem dX9_summons_6 : decode cX9_summons 6 = .ok (.aload_n 3, 1) := by decide +kernel
theorem dX9_summons_7 : decode cX9_summons 7 = .ok (.ifnull 11, 3) := by decide +kernel
theorem dX9_summons_10 : decode cX9_summons 10 = .ok (.aload_n 3, 1) := by decide +kernel
theorem dX9_summons_11 : decode cX9_summons 11 = .ok (.getfield 204, 3) := by decide +kernel
theorem dX9_summons_14 : decode cX9_summons 14 = .ok (.iconst (-1), 1) := by decide +kernel
theorem dX9_summons_15 : decode cX9_summons 15 = .ok (.if_icmp .eq 5, 3) := by decide +kernel
theorem dX9_summons_18 : decode cX9_summons 18 = .ok (.iconst (-1), 1) := by decide +kernel
theorem dX9_summons_19 : decode cX9_summons 19 = .ok (.ireturn, 1) := by decide +kernel
theorem dX9_summons_20 : decode cX9_summons 20 = .ok (.aload_n 3, 1) := by decide +kernel
theorem dX9_summons_21 : decode cX9_summons 21 = .ok (.dup, 1) := by decide +kernel
theorem dX9_summons_22 : decode cX9_summons 22 = .ok (.getfield 207, 3) := by decide +kernel
theorem dX9_summons_25 : decode cX9_summons 25 = .ok (.iconst 1, 1) := by decide +kernel
theorem dX9_summons_26 : decode cX9_summons 26 = .ok (.iadd, 1) := by decide +kernel
theorem dX9_summons_27 : decode cX9_summons 27 = .ok (.putfield 207, 3) := by decide +kernel
theorem dX9_summons_30 : decode cX9_summons 30 = .ok (.iload_n 2, 1) := by decide +kernel
theorem dX9_summons_31 : decode cX9_summons 31 = .ok (.ifCond .eq 11, 3) := by decide +kernel
theorem dX9_summons_34 : decode cX9_summons 34 = .ok (.aload_n 3, 1) := by decide +kernel
theorem dX9_summons_35 : decode cX9_summons 35 = .ok (.aload_n 0, 1) := by decide +kernel
theorem dX9_summons_36 : decode cX9_summons 36 = .ok (.getfield 94, 3) := by decide +kernel
theorem dX9_summons_39 : decode cX9_summons 39 = .ok (.putfield 204, 3) := by decide +kernel
theorem dX9_summons_42 : decode cX9_summons 42 = .ok (.aload_n 3, 1) := by decide +kernel
theorem dX9_summons_43 : decode cX9_summons 43 = .ok (.getfield 207, 3) := by decide +kernel
theorem dX9_summons_46 : decode cX9_summons 46 = .ok (.ireturn, 1) := by decide +kernel
theorem dX9_hear_0 : decode cX9_hear 0 = .ok (.aload_n 0, 1) := by decide +kernel
theorem dX9_hear_1 : decode cX9_hear 1 = .ok (.iload_n 1, 1) := by decide +kernel
theorem dX9_hear_2 : decode cX9_hear 2 = .ok (.invokevirtual 200, 3) := by decide +kernel
theorem dX9_hear_5 : decode cX9_hear 5 = .ok (.astore 5, 2) := by decide +kernel
theorem dX9_hear_7 : decode cX9_hear 7 = .ok (.aload 5, 2) := by decide +kernel
theorem dX9_hear_9 : decode cX9_hear 9 = .ok (.ifnull 57, 3) := by decide +kernel
theorem dX9_hear_12 : decode cX9_hear 12 = .ok (.aload 5, 2) := by decide +kernel
theorem dX9_hear_14 : decode cX9_hear 14 = .ok (.getfield 204, 3) := by decide +kernel
theorem dX9_hear_17 : decode cX9_hear 17 = .ok (.iconst (-1), 1) := by decide +kernel
theorem dX9_hear_18 : decode cX9_hear 18 = .ok (.if_icmp .eq 48, 3) := by decide +kernel
theorem dX9_hear_21 : decode cX9_hear 21 = .ok (.aload 5, 2) := by decide +kernel
theorem dX9_hear_23 : decode cX9_hear 23 = .ok (.getfield 210, 3) := by decide +kernel
theorem dX9_hear_26 : decode cX9_hear 26 = .ok (.iconst (-1), 1) := by decide +kernel
theorem dX9_hear_27 : decode cX9_hear 27 = .ok (.if_icmp .ne 39, 3) := by decide +kernel
theorem dX9_hear_30 : decode cX9_hear 30 = .ok (.aload 5, 2) := by decide +kernel
theorem dX9_hear_32 : decode cX9_hear 32 = .ok (.getfield 212, 3) := by decide +kernel
theorem dX9_hear_35 : decode cX9_hear 35 = .ok (.getfield 148, 3) := by decide +kernel
theorem dX9_hear_38 : decode cX9_hear 38 = .ok (.ifCond .ne 28, 3) := by decide +kernel
theorem dX9_hear_41 : decode cX9_hear 41 = .ok (.iload 4, 2) := by decide +kernel
theorem dX9_hear_43 : decode cX9_hear 43 = .ok (.ifCond .lt 23, 3) := by decide +kernel
theorem dX9_hear_46 : decode cX9_hear 46 = .ok (.aload_n 0, 1) := by decide +kernel
theorem dX9_hear_47 : decode cX9_hear 47 = .ok (.getfield 216, 3) := by decide +kernel
theorem dX9_hear_50 : decode cX9_hear 50 = .ok (.bipush 100, 2) := by decide +kernel
theorem dX9_hear_52 : decode cX9_hear 52 = .ok (.if_icmp .ge 14, 3) := by decide +kernel
theorem dX9_hear_55 : decode cX9_hear 55 = .ok (.aload_n 0, 1) := by decide +kernel
theorem dX9_hear_56 : decode cX9_hear 56 = .ok (.aload 5, 2) := by decide +kernel
theorem dX9_hear_58 : decode cX9_hear 58 = .ok (.iload 4, 2) := by decide +kernel
theorem dX9_hear_60 : decode cX9_hear 60 = .ok (.invokevirtual 219, 3) := by decide +kernel
theorem dX9_hear_63 : decode cX9_hear 63 = .ok (.ifCond .ne 5, 3) := by decide +kernel
theorem dX9_hear_66 : decode cX9_hear 66 = .ok (.iconst (-1), 1) := by decide +kernel
theorem dX9_hear_67 : decode cX9_hear 67 = .ok (.ireturn, 1) := by decide +kernel
theorem dX9_hear_68 : decode cX9_hear 68 = .ok (.aload 5, 2) := by decide +kernel
theorem dX9_hear_70 : decode cX9_hear 70 = .ok (.getfield 223, 3) := by decide +kernel
theorem dX9_hear_73 : decode cX9_hear 73 = .ok (.getfield 143, 3) := by decide +kernel
theorem dX9_hear_76 : decode cX9_hear 76 = .ok (.istore 6, 2) := by decide +kernel
theorem dX9_hear_78 : decode cX9_hear 78 = .ok (.aload 5, 2) := by decide +kernel
theorem dX9_hear_80 : decode cX9_hear 80 = .ok (.getfield 212, 3) := by decide +kernel
theorem dX9_hear_83 : decode cX9_hear 83 = .ok (.getfield 143, 3) := by decide +kernel
theorem dX9_hear_86 : decode cX9_hear 86 = .ok (.istore 7, 2) := by decide +kernel
theorem dX9_hear_88 : decode cX9_hear 88 = .ok (.aload 5, 2) := by decide +kernel
theorem dX9_hear_90 : decode cX9_hear 90 = .ok (.getfield 196, 3) := by decide +kernel
theorem dX9_hear_93 : decode cX9_hear 93 = .ok (.iconst 0, 1) := by decide +kernel
theorem dX9_hear_94 : decode cX9_hear 94 = .ok (.iload_n 2, 1) := by decide +kernel
theorem dX9_hear_95 : decode cX9_hear 95 = .ok (.ifCond .eq 7, 3) := by decide +kernel
theorem dX9_hear_98 : decode cX9_hear 98 = .ok (.iconst 1, 1) := by decide +kernel
theorem dX9_hear_99 : decode cX9_hear 99 = .ok (.goto 4, 3) := by decide +kernel
theorem dX9_hear_102 : decode cX9_hear 102 = .ok (.iconst 0, 1) := by decide +kernel
theorem dX9_hear_103 : decode cX9_hear 103 = .ok (.iastore, 1) := by decide +kernel
theorem dX9_hear_104 : decode cX9_hear 104 = .ok (.aload 5, 2) := by decide +kernel
theorem dX9_hear_106 : decode cX9_hear 106 = .ok (.getfield 196, 3) := by decide +kernel
theorem dX9_hear_109 : decode cX9_hear 109 = .ok (.iconst 1, 1) := by decide +kernel
theorem dX9_hear_110 : decode cX9_hear 110 = .ok (.iload_n 3, 1) := by decide +kernel
theorem dX9_hear_111 : decode cX9_hear 111 = .ok (.ifCond .eq 7, 3) := by decide +kernel
theorem dX9_hear_114 : decode cX9_hear 114 = .ok (.iconst 1, 1) := by decide +kernel
theorem dX9_hear_115 : decode cX9_hear 115 = .ok (.goto 4, 3) := by decide +kernel
theorem dX9_hear_118 : decode cX9_hear 118 = .ok (.iconst 0, 1) := by decide +kernel
theorem dX9_hear_119 : decode cX9_hear 119 = .ok (.iastore, 1) := by decide +kernel
theorem dX9_hear_120 : decode cX9_hear 120 = .ok (.aload 5, 2) := by decide +kernel
theorem dX9_hear_122 : decode cX9_hear 122 = .ok (.getfield 196, 3) := by decide +kernel
theorem dX9_hear_125 : decode cX9_hear 125 = .ok (.iconst 4, 1) := by decide +kernel
theorem dX9_hear_126 : decode cX9_hear 126 = .ok (.aload_n 0, 1) := by decide +kernel
theorem dX9_hear_127 : decode cX9_hear 127 = .ok (.getfield 42, 3) := by decide +kernel
theorem dX9_hear_130 : decode cX9_hear 130 = .ok (.iload 6, 2) := by decide +kernel
theorem dX9_hear_132 : decode cX9_hear 132 = .ok (.iload 7, 2) := by decide +kernel
theorem dX9_hear_134 : decode cX9_hear 134 = .ok (.aload 5, 2) := by decide +kernel
theorem dX9_hear_136 : decode cX9_hear 136 = .ok (.getfield 193, 3) := by decide +kernel
theorem dX9_hear_139 : decode cX9_hear 139 = .ok (.invokevirtual 170, 3) := by decide +kernel
theorem dX9_hear_142 : decode cX9_hear 142 = .ok (.iastore, 1) := by decide +kernel
theorem dX9_hear_143 : decode cX9_hear 143 = .ok (.aload 5, 2) := by decide +kernel
theorem dX9_hear_145 : decode cX9_hear 145 = .ok (.getfield 196, 3) := by decide +kernel
theorem dX9_hear_148 : decode cX9_hear 148 = .ok (.iconst 5, 1) := by decide +kernel
theorem dX9_hear_149 : decode cX9_hear 149 = .ok (.aload_n 0, 1) := by decide +kernel
theorem dX9_hear_150 : decode cX9_hear 150 = .ok (.getfield 42, 3) := by decide +kernel
theorem dX9_hear_153 : decode cX9_hear 153 = .ok (.iload 7, 2) := by decide +kernel
theorem dX9_hear_155 : decode cX9_hear 155 = .ok (.iload 6, 2) := by decide +kernel
theorem dX9_hear_157 : decode cX9_hear 157 = .ok (.aload 5, 2) := by decide +kernel
theorem dX9_hear_159 : decode cX9_hear 159 = .ok (.getfield 193, 3) := by decide +kernel
theorem dX9_hear_162 : decode cX9_hear 162 = .ok (.invokevirtual 170, 3) := by decide +kernel
theorem dX9_hear_165 : decode cX9_hear 165 = .ok (.ineg, 1) := by decide +kernel
theorem dX9_hear_166 : decode cX9_hear 166 = .ok (.iastore, 1) := by decide +kernel
theorem dX9_hear_167 : decode cX9_hear 167 = .ok (.aload 5, 2) := by decide +kernel
theorem dX9_hear_169 : decode cX9_hear 169 = .ok (.getfield 196, 3) := by decide +kernel
theorem dX9_hear_172 : decode cX9_hear 172 = .ok (.bipush 6, 2) := by decide +kernel
theorem dX9_hear_174 : decode cX9_hear 174 = .ok (.aload_n 0, 1) := by decide +kernel
theorem dX9_hear_175 : decode cX9_hear 175 = .ok (.getfield 42, 3) := by decide +kernel
theorem dX9_hear_178 : decode cX9_hear 178 = .ok (.iload 6, 2) := by decide +kernel
theorem dX9_hear_180 : decode cX9_hear 180 = .ok (.iload 7, 2) := by decide +kernel
theorem dX9_hear_182 : decode cX9_hear 182 = .ok (.aload 5, 2) := by decide +kernel
theorem dX9_hear_184 : decode cX9_hear 184 = .ok (.getfield 193, 3) := by decide +kernel
theorem dX9_hear_187 : decode cX9_hear 187 = .ok (.invokevirtual 174, 3) := by decide +kernel
theorem dX9_hear_190 : decode cX9_hear 190 = .ok (.iastore, 1) := by decide +kernel
theorem dX9_hear_191 : decode cX9_hear 191 = .ok (.aload 5, 2) := by decide +kernel
theorem dX9_hear_193 : decode cX9_hear 193 = .ok (.aload_n 0, 1) := by decide +kernel
theorem dX9_hear_194 : decode cX9_hear 194 = .ok (.getfield 94, 3) := by decide +kernel
theorem dX9_hear_197 : decode cX9_hear 197 = .ok (.putfield 210, 3) := by decide +kernel
theorem dX9_hear_200 : decode cX9_hear 200 = .ok (.aload 5, 2) := by decide +kernel
theorem dX9_hear_202 : decode cX9_hear 202 = .ok (.aload_n 0, 1) := by decide +kernel
theorem dX9_hear_203 : decode cX9_hear 203 = .ok (.aload 5, 2) := by decide +kernel
theorem dX9_hear_205 : decode cX9_hear 205 = .ok (.aload 5, 2) := by decide +kernel
theorem dX9_hear_207 : decode cX9_hear 207 = .ok (.getfield 226, 3) := by decide +kernel
theorem dX9_hear_210 : decode cX9_hear 210 = .ok (.invokevirtual 229, 3) := by decide +kernel
theorem dX9_hear_213 : decode cX9_hear 213 = .ok (.putfield 233, 3) := by decide +kernel
theorem dX9_hear_216 : decode cX9_hear 216 = .ok (.aload_n 0, 1) := by decide +kernel
theorem dX9_hear_217 : decode cX9_hear 217 = .ok (.getfield 52, 3) := by decide +kernel
theorem dX9_hear_220 : decode cX9_hear 220 = .ok (.aload_n 0, 1) := by decide +kernel
theorem dX9_hear_221 : decode cX9_hear 221 = .ok (.getfield 216, 3) := by decide +kernel
theorem dX9_hear_224 : decode cX9_hear 224 = .ok (.aload 5, 2) := by decide +kernel
theorem dX9_hear_226 : decode cX9_hear 226 = .ok (.aastore, 1) := by decide +kernel
theorem dX9_hear_227 : decode cX9_hear 227 = .ok (.aload_n 0, 1) := by decide +kernel
theorem dX9_hear_228 : decode cX9_hear 228 = .ok (.dup, 1) := by decide +kernel
theorem dX9_hear_229 : decode cX9_hear 229 = .ok (.getfield 216, 3) := by decide +kernel
theorem dX9_hear_232 : decode cX9_hear 232 = .ok (.iconst 1, 1) := by decide +kernel
theorem dX9_hear_233 : decode cX9_hear 233 = .ok (.iadd, 1) := by decide +kernel
theorem dX9_hear_234 : decode cX9_hear 234 = .ok (.putfield 216, 3) := by decide +kernel
theorem dX9_hear_237 : decode cX9_hear 237 = .ok (.aload 5, 2) := by decide +kernel
theorem dX9_hear_239 : decode cX9_hear 239 = .ok (.getfield 233, 3) := by decide +kernel
theorem dX9_hear_242 : decode cX9_hear 242 = .ok (.ireturn, 1) := by decide +kernel
theorem dX9_drawBench_0 : decode cX9_drawBench 0 = .ok (.iconst 0, 1) := by decide +kernel
theorem dX9_drawBench_1 : decode cX9_drawBench 1 = .ok (.istore_n 3, 1) := by decide +kernel
theorem dX9_drawBench_2 : decode cX9_drawBench 2 = .ok (.iconst 0, 1) := by decide +kernel
theorem dX9_drawBench_3 : decode cX9_drawBench 3 = .ok (.istore 4, 2) := by decide +kernel
theorem dX9_drawBench_5 : decode cX9_drawBench 5 = .ok (.iload 4, 2) := by decide +kernel
theorem dX9_drawBench_7 : decode cX9_drawBench 7 = .ok (.aload_n 0, 1) := by decide +kernel
theorem dX9_drawBench_8 : decode cX9_drawBench 8 = .ok (.getfield 125, 3) := by decide +kernel
theorem dX9_drawBench_11 : decode cX9_drawBench 11 = .ok (.if_icmp .ge 34, 3) := by decide +kernel
theorem dX9_drawBench_14 : decode cX9_drawBench 14 = .ok (.aload_n 0, 1) := by decide +kernel
theorem dX9_drawBench_15 : decode cX9_drawBench 15 = .ok (.getfield 35, 3) := by decide +kernel
theorem dX9_drawBench_18 : decode cX9_drawBench 18 = .ok (.iload 4, 2) := by decide +kernel
theorem dX9_drawBench_20 : decode cX9_drawBench 20 = .ok (.aaload, 1) := by decide +kernel
theorem dX9_drawBench_21 : decode cX9_drawBench 21 = .ok (.aload_n 1, 1) := by decide +kernel
theorem dX9_drawBench_22 : decode cX9_drawBench 22 = .ok (.invokevirtual 236, 3) := by decide +kernel
theorem dX9_drawBench_25 : decode cX9_drawBench 25 = .ok (.ifCond .eq 14, 3) := by decide +kernel
theorem dX9_drawBench_28 : decode cX9_drawBench 28 = .ok (.aload_n 0, 1) := by decide +kernel
theorem dX9_drawBench_29 : decode cX9_drawBench 29 = .ok (.getfield 62, 3) := by decide +kernel
theorem dX9_drawBench_32 : decode cX9_drawBench 32 = .ok (.iload_n 3, 1) := by decide +kernel
theorem dX9_drawBench_33 : decode cX9_drawBench 33 = .ok (.iload 4, 2) := by decide +kernel
theorem dX9_drawBench_35 : decode cX9_drawBench 35 = .ok (.iastore, 1) := by decide +kernel
theorem dX9_drawBench_36 : decode cX9_drawBench 36 = .ok (.iinc 3 1, 3) := by decide +kernel
theorem dX9_drawBench_39 : decode cX9_drawBench 39 = .ok (.iinc 4 1, 3) := by decide +kernel
theorem dX9_drawBench_42 : decode cX9_drawBench 42 = .ok (.goto (-37), 3) := by decide +kernel
theorem dX9_drawBench_45 : decode cX9_drawBench 45 = .ok (.iload_n 3, 1) := by decide +kernel
theorem dX9_drawBench_46 : decode cX9_drawBench 46 = .ok (.iload_n 3, 1) := by decide +kernel
theorem dX9_drawBench_47 : decode cX9_drawBench 47 = .ok (.iconst 1, 1) := by decide +kernel
theorem dX9_drawBench_48 : decode cX9_drawBench 48 = .ok (.isub, 1) := by decide +kernel
theorem dX9_drawBench_49 : decode cX9_drawBench 49 = .ok (.imul, 1) := by decide +kernel
theorem dX9_drawBench_50 : decode cX9_drawBench 50 = .ok (.iload_n 3, 1) := by decide +kernel
theorem dX9_drawBench_51 : decode cX9_drawBench 51 = .ok (.iconst 2, 1) := by decide +kernel
theorem dX9_drawBench_52 : decode cX9_drawBench 52 = .ok (.isub, 1) := by decide +kernel
theorem dX9_drawBench_53 : decode cX9_drawBench 53 = .ok (.imul, 1) := by decide +kernel
theorem dX9_drawBench_54 : decode cX9_drawBench 54 = .ok (.bipush 6, 2) := by decide +kernel
theorem dX9_drawBench_56 : decode cX9_drawBench 56 = .ok (.idiv, 1) := by decide +kernel
theorem dX9_drawBench_57 : decode cX9_drawBench 57 = .ok (.istore 4, 2) := by decide +kernel
theorem dX9_drawBench_59 : decode cX9_drawBench 59 = .ok (.iload 4, 2) := by decide +kernel
theorem dX9_drawBench_61 : decode cX9_drawBench 61 = .ok (.iconst 1, 1) := by decide +kernel
theorem dX9_drawBench_62 : decode cX9_drawBench 62 = .ok (.if_icmp .ge 5, 3) := by decide +kernel
theorem dX9_drawBench_65 : decode cX9_drawBench 65 = .ok (.iconst 0, 1) := by decide +kernel
theorem dX9_drawBench_66 : decode cX9_drawBench 66 = .ok (.ireturn, 1) := by decide +kernel
theorem dX9_drawBench_67 : decode cX9_drawBench 67 = .ok (.iload_n 2, 1) := by decide +kernel
theorem dX9_drawBench_68 : decode cX9_drawBench 68 = .ok (.iload 4, 2) := by decide +kernel
theorem dX9_drawBench_70 : decode cX9_drawBench 70 = .ok (.irem, 1) := by decide +kernel
theorem dX9_drawBench_71 : decode cX9_drawBench 71 = .ok (.istore 5, 2) := by decide +kernel
theorem dX9_drawBench_73 : decode cX9_drawBench 73 = .ok (.iconst 0, 1) := by decide +kernel
theorem dX9_drawBench_74 : decode cX9_drawBench 74 = .ok (.istore 6, 2) := by decide +kernel
theorem dX9_drawBench_76 : decode cX9_drawBench 76 = .ok (.iload 6, 2) := by decide +kernel
theorem dX9_drawBench_78 : decode cX9_drawBench 78 = .ok (.iload_n 3, 1) := by decide +kernel
theorem dX9_drawBench_79 : decode cX9_drawBench 79 = .ok (.if_icmp .ge 95, 3) := by decide +kernel
theorem dX9_drawBench_82 : decode cX9_drawBench 82 = .ok (.iload 6, 2) := by decide +kernel
theorem dX9_drawBench_84 : decode cX9_drawBench 84 = .ok (.iconst 1, 1) := by decide +kernel
theorem dX9_drawBench_85 : decode cX9_drawBench 85 = .ok (.iadd, 1) := by decide +kernel
theorem dX9_drawBench_86 : decode cX9_drawBench 86 = .ok (.istore 7, 2) := by decide +kernel
theorem dX9_drawBench_88 : decode cX9_drawBench 88 = .ok (.iload 7, 2) := by decide +kernel
theorem dX9_drawBench_90 : decode cX9_drawBench 90 = .ok (.iload_n 3, 1) := by decide +kernel
theorem dX9_drawBench_91 : decode cX9_drawBench 91 = .ok (.if_icmp .ge 77, 3) := by decide +kernel
theorem dX9_drawBench_94 : decode cX9_drawBench 94 = .ok (.iload_n 3, 1) := by decide +kernel
theorem dX9_drawBench_95 : decode cX9_drawBench 95 = .ok (.iload 7, 2) := by decide +kernel
theorem dX9_drawBench_97 : decode cX9_drawBench 97 = .ok (.isub, 1) := by decide +kernel
theorem dX9_drawBench_98 : decode cX9_drawBench 98 = .ok (.iconst 1, 1) := by decide +kernel
theorem dX9_drawBench_99 : decode cX9_drawBench 99 = .ok (.isub, 1) := by decide +kernel
theorem dX9_drawBench_100 : decode cX9_drawBench 100 = .ok (.istore 8, 2) := by decide +kernel
theorem dX9_drawBench_102 : decode cX9_drawBench 102 = .ok (.iload 5, 2) := by decide +kernel
theorem dX9_drawBench_104 : decode cX9_drawBench 104 = .ok (.iload 8, 2) := by decide +kernel
theorem dX9_drawBench_106 : decode cX9_drawBench 106 = .ok (.if_icmp .ge 49, 3) := by decide +kernel
theorem dX9_drawBench_109 : decode cX9_drawBench 109 = .ok (.aload_n 1, 1) := by decide +kernel
theorem dX9_drawBench_110 : decode cX9_drawBench 110 = .ok (.getfield 240, 3) := by decide +kernel
theorem dX9_drawBench_113 : decode cX9_drawBench 113 = .ok (.iconst 0, 1) := by decide +kernel
theorem dX9_drawBench_114 : decode cX9_drawBench 114 = .ok (.aload_n 0, 1) := by decide +kernel
theorem dX9_drawBench_115 : decode cX9_drawBench 115 = .ok (.getfield 62, 3) := by decide +kernel
theorem dX9_drawBench_118 : decode cX9_drawBench 118 = .ok (.iload 6, 2) := by decide +kernel
theorem dX9_drawBench_120 : decode cX9_drawBench 120 = .ok (.iaload, 1) := by decide +kernel
theorem dX9_drawBench_121 : decode cX9_drawBench 121 = .ok (.iastore, 1) := by decide +kernel
theorem dX9_drawBench_122 : decode cX9_drawBench 122 = .ok (.aload_n 1, 1) := by decide +kernel
theorem dX9_drawBench_123 : decode cX9_drawBench 123 = .ok (.getfield 240, 3) := by decide +kernel
theorem dX9_drawBench_126 : decode cX9_drawBench 126 = .ok (.iconst 1, 1) := by decide +kernel
theorem dX9_drawBench_127 : decode cX9_drawBench 127 = .ok (.aload_n 0, 1) := by decide +kernel
theorem dX9_drawBench_128 : decode cX9_drawBench 128 = .ok (.getfield 62, 3) := by decide +kernel
theorem dX9_drawBench_131 : decode cX9_drawBench 131 = .ok (.iload 7, 2) := by decide +kernel
theorem dX9_drawBench_133 : decode cX9_drawBench 133 = .ok (.iaload, 1) := by decide +kernel
theorem dX9_drawBench_134 : decode cX9_drawBench 134 = .ok (.iastore, 1) := by decide +kernel
theorem dX9_drawBench_135 : decode cX9_drawBench 135 = .ok (.aload_n 1, 1) := by decide +kernel
theorem dX9_drawBench_136 : decode cX9_drawBench 136 = .ok (.getfield 240, 3) := by decide +kernel
theorem dX9_drawBench_139 : decode cX9_drawBench 139 = .ok (.iconst 2, 1) := by decide +kernel
theorem dX9_drawBench_140 : decode cX9_drawBench 140 = .ok (.aload_n 0, 1) := by decide +kernel
theorem dX9_drawBench_141 : decode cX9_drawBench 141 = .ok (.getfield 62, 3) := by decide +kernel
theorem dX9_drawBench_144 : decode cX9_drawBench 144 = .ok (.iload 7, 2) := by decide +kernel
theorem dX9_drawBench_146 : decode cX9_drawBench 146 = .ok (.iconst 1, 1) := by decide +kernel
theorem dX9_drawBench_147 : decode cX9_drawBench 147 = .ok (.iadd, 1) := by decide +kernel
theorem dX9_drawBench_148 : decode cX9_drawBench 148 = .ok (.iload 5, 2) := by decide +kernel
theorem dX9_drawBench_150 : decode cX9_drawBench 150 = .ok (.iadd, 1) := by decide +kernel
theorem dX9_drawBench_151 : decode cX9_drawBench 151 = .ok (.iaload, 1) := by decide +kernel
theorem dX9_drawBench_152 : decode cX9_drawBench 152 = .ok (.iastore, 1) := by decide +kernel
theorem dX9_drawBench_153 : decode cX9_drawBench 153 = .ok (.iconst 1, 1) := by decide +kernel
theorem dX9_drawBench_154 : decode cX9_drawBench 154 = .ok (.ireturn, 1) := by decide +kernel
theorem dX9_drawBench_155 : decode cX9_drawBench 155 = .ok (.iload 5, 2) := by decide +kernel
theorem dX9_drawBench_157 : decode cX9_drawBench 157 = .ok (.iload 8, 2) := by decide +kernel
theorem dX9_drawBench_159 : decode cX9_drawBench 159 = .ok (.isub, 1) := by decide +kernel
theorem dX9_drawBench_160 : decode cX9_drawBench 160 = .ok (.istore 5, 2) := by decide +kernel
theorem dX9_drawBench_162 : decode cX9_drawBench 162 = .ok (.iinc 7 1, 3) := by decide +kernel
theorem dX9_drawBench_165 : decode cX9_drawBench 165 = .ok (.goto (-77), 3) := by decide +kernel
theorem dX9_drawBench_168 : decode cX9_drawBench 168 = .ok (.iinc 6 1, 3) := by decide +kernel
theorem dX9_drawBench_171 : decode cX9_drawBench 171 = .ok (.goto (-95), 3) := by decide +kernel
theorem dX9_drawBench_174 : decode cX9_drawBench 174 = .ok (.iconst 0, 1) := by decide +kernel
theorem dX9_drawBench_175 : decode cX9_drawBench 175 = .ok (.ireturn, 1) := by decide +kernel
theorem dX9_judgement_0 : decode cX9_judgement 0 = .ok (.aload_n 1, 1) := by decide +kernel
theorem dX9_judgement_1 : decode cX9_judgement 1 = .ok (.getfield 190, 3) := by decide +kernel
theorem dX9_judgement_4 : decode cX9_judgement 4 = .ok (.aload_n 1, 1) := by decide +kernel
theorem dX9_judgement_5 : decode cX9_judgement 5 = .ok (.getfield 212, 3) := by decide +kernel
theorem dX9_judgement_8 : decode cX9_judgement 8 = .ok (.getfield 243, 3) := by decide +kernel
theorem dX9_judgement_11 : decode cX9_judgement 11 = .ok (.sipush 365, 3) := by decide +kernel
theorem dX9_judgement_14 : decode cX9_judgement 14 = .ok (.aload_n 2, 1) := by decide +kernel
theorem dX9_judgement_15 : decode cX9_judgement 15 = .ok (.getfield 119, 3) := by decide +kernel
theorem dX9_judgement_18 : decode cX9_judgement 18 = .ok (.bipush 9, 2) := by decide +kernel
theorem dX9_judgement_20 : decode cX9_judgement 20 = .ok (.iaload, 1) := by decide +kernel
theorem dX9_judgement_21 : decode cX9_judgement 21 = .ok (.imul, 1) := by decide +kernel
theorem dX9_judgement_22 : decode cX9_judgement 22 = .ok (.iadd, 1) := by decide +kernel
theorem dX9_judgement_23 : decode cX9_judgement 23 = .ok (.if_icmp .ge 5, 3) := by decide +kernel
theorem dX9_judgement_26 : decode cX9_judgement 26 = .ok (.iconst 1, 1) := by decide +kernel
theorem dX9_judgement_27 : decode cX9_judgement 27 = .ok (.ireturn, 1) := by decide +kernel
theorem dX9_judgement_28 : decode cX9_judgement 28 = .ok (.aload_n 1, 1) := by decide +kernel
theorem dX9_judgement_29 : decode cX9_judgement 29 = .ok (.getfield 187, 3) := by decide +kernel
theorem dX9_judgement_32 : decode cX9_judgement 32 = .ok (.aload_n 2, 1) := by decide +kernel
theorem dX9_judgement_33 : decode cX9_judgement 33 = .ok (.getfield 119, 3) := by decide +kernel
theorem dX9_judgement_36 : decode cX9_judgement 36 = .ok (.iconst 1, 1) := by decide +kernel
theorem dX9_judgement_37 : decode cX9_judgement 37 = .ok (.iaload, 1) := by decide +kernel
theorem dX9_judgement_38 : decode cX9_judgement 38 = .ok (.if_icmp .le 5, 3) := by decide +kernel
theorem dX9_judgement_41 : decode cX9_judgement 41 = .ok (.iconst 2, 1) := by decide +kernel
theorem dX9_judgement_42 : decode cX9_judgement 42 = .ok (.ireturn, 1) := by decide +kernel
theorem dX9_judgement_43 : decode cX9_judgement 43 = .ok (.aload_n 0, 1) := by decide +kernel
theorem dX9_judgement_44 : decode cX9_judgement 44 = .ok (.aload_n 1, 1) := by decide +kernel
theorem dX9_judgement_45 : decode cX9_judgement 45 = .ok (.aload_n 2, 1) := by decide +kernel
theorem dX9_judgement_46 : decode cX9_judgement 46 = .ok (.invokevirtual 246, 3) := by decide +kernel
theorem dX9_judgement_49 : decode cX9_judgement 49 = .ok (.aload_n 2, 1) := by decide +kernel
theorem dX9_judgement_50 : decode cX9_judgement 50 = .ok (.getfield 119, 3) := by decide +kernel
theorem dX9_judgement_53 : decode cX9_judgement 53 = .ok (.iconst 1, 1) := by decide +kernel
theorem dX9_judgement_54 : decode cX9_judgement 54 = .ok (.iaload, 1) := by decide +kernel
theorem dX9_judgement_55 : decode cX9_judgement 55 = .ok (.if_icmp .le 5, 3) := by decide +kernel
theorem dX9_judgement_58 : decode cX9_judgement 58 = .ok (.iconst 3, 1) := by decide +kernel
theorem dX9_judgement_59 : decode cX9_judgement 59 = .ok (.ireturn, 1) := by decide +kernel
theorem dX9_judgement_60 : decode cX9_judgement 60 = .ok (.aload_n 2, 1) := by decide +kernel
theorem dX9_judgement_61 : decode cX9_judgement 61 = .ok (.aload_n 1, 1) := by decide +kernel
theorem dX9_judgement_62 : decode cX9_judgement 62 = .ok (.getfield 196, 3) := by decide +kernel
theorem dX9_judgement_65 : decode cX9_judgement 65 = .ok (.invokevirtual 249, 3) := by decide +kernel
theorem dX9_judgement_68 : decode cX9_judgement 68 = .ok (.ifCond .eq 7, 3) := by decide +kernel
theorem dX9_judgement_71 : decode cX9_judgement 71 = .ok (.iconst 5, 1) := by decide +kernel
theorem dX9_judgement_72 : decode cX9_judgement 72 = .ok (.goto 4, 3) := by decide +kernel
theorem dX9_judgement_75 : decode cX9_judgement 75 = .ok (.iconst 4, 1) := by decide +kernel
theorem dX9_judgement_76 : decode cX9_judgement 76 = .ok (.ireturn, 1) := by decide +kernel
theorem dX9_sumOfSplit_0 : decode cX9_sumOfSplit 0 = .ok (.iconst 0, 1) := by decide +kernel
theorem dX9_sumOfSplit_1 : decode cX9_sumOfSplit 1 = .ok (.istore_n 3, 1) := by decide +kernel
theorem dX9_sumOfSplit_2 : decode cX9_sumOfSplit 2 = .ok (.iconst 0, 1) := by decide +kernel
theorem dX9_sumOfSplit_3 : decode cX9_sumOfSplit 3 = .ok (.istore 4, 2) := by decide +kernel
theorem dX9_sumOfSplit_5 : decode cX9_sumOfSplit 5 = .ok (.iload 4, 2) := by decide +kernel
theorem dX9_sumOfSplit_7 : decode cX9_sumOfSplit 7 = .ok (.aload_n 0, 1) := by decide +kernel
theorem dX9_sumOfSplit_8 : decode cX9_sumOfSplit 8 = .ok (.getfield 181, 3) := by decide +kernel
theorem dX9_sumOfSplit_11 : decode cX9_sumOfSplit 11 = .ok (.if_icmp .ge 69, 3) := by decide +kernel
theorem dX9_sumOfSplit_14 : decode cX9_sumOfSplit 14 = .ok (.aload_n 0, 1) := by decide +kernel
theorem dX9_sumOfSplit_15 : decode cX9_sumOfSplit 15 = .ok (.getfield 48, 3) := by decide +kernel
theorem dX9_sumOfSplit_18 : decode cX9_sumOfSplit 18 = .ok (.iload 4, 2) := by decide +kernel
theorem dX9_sumOfSplit_20 : decode cX9_sumOfSplit 20 = .ok (.aaload, 1) := by decide +kernel
theorem dX9_sumOfSplit_21 : decode cX9_sumOfSplit 21 = .ok (.astore 5, 2) := by decide +kernel
theorem dX9_sumOfSplit_23 : decode cX9_sumOfSplit 23 = .ok (.aload 5, 2) := by decide +kernel
theorem dX9_sumOfSplit_25 : decode cX9_sumOfSplit 25 = .ok (.getfield 223, 3) := by decide +kernel
theorem dX9_sumOfSplit_28 : decode cX9_sumOfSplit 28 = .ok (.aload_n 1, 1) := by decide +kernel
theorem dX9_sumOfSplit_29 : decode cX9_sumOfSplit 29 = .ok (.getfield 223, 3) := by decide +kernel
theorem dX9_sumOfSplit_32 : decode cX9_sumOfSplit 32 = .ok (.if_acmp .ne 42, 3) := by decide +kernel
theorem dX9_sumOfSplit_35 : decode cX9_sumOfSplit 35 = .ok (.aload 5, 2) := by decide +kernel
theorem dX9_sumOfSplit_37 : decode cX9_sumOfSplit 37 = .ok (.getfield 212, 3) := by decide +kernel
theorem dX9_sumOfSplit_40 : decode cX9_sumOfSplit 40 = .ok (.aload_n 1, 1) := by decide +kernel
theorem dX9_sumOfSplit_41 : decode cX9_sumOfSplit 41 = .ok (.getfield 212, 3) := by decide +kernel
theorem dX9_sumOfSplit_44 : decode cX9_sumOfSplit 44 = .ok (.if_acmp .ne 30, 3) := by decide +kernel
theorem dX9_sumOfSplit_47 : decode cX9_sumOfSplit 47 = .ok (.aload 5, 2) := by decide +kernel
theorem dX9_sumOfSplit_49 : decode cX9_sumOfSplit 49 = .ok (.getfield 193, 3) := by decide +kernel
theorem dX9_sumOfSplit_52 : decode cX9_sumOfSplit 52 = .ok (.aload_n 1, 1) := by decide +kernel
theorem dX9_sumOfSplit_53 : decode cX9_sumOfSplit 53 = .ok (.getfield 193, 3) := by decide +kernel
theorem dX9_sumOfSplit_56 : decode cX9_sumOfSplit 56 = .ok (.aload_n 2, 1) := by decide +kernel
theorem dX9_sumOfSplit_57 : decode cX9_sumOfSplit 57 = .ok (.getfield 119, 3) := by decide +kernel
theorem dX9_sumOfSplit_60 : decode cX9_sumOfSplit 60 = .ok (.iconst 2, 1) := by decide +kernel
theorem dX9_sumOfSplit_61 : decode cX9_sumOfSplit 61 = .ok (.iaload, 1) := by decide +kernel
theorem dX9_sumOfSplit_62 : decode cX9_sumOfSplit 62 = .ok (.isub, 1) := by decide +kernel
theorem dX9_sumOfSplit_63 : decode cX9_sumOfSplit 63 = .ok (.if_icmp .lt 11, 3) := by decide +kernel
theorem dX9_sumOfSplit_66 : decode cX9_sumOfSplit 66 = .ok (.iload_n 3, 1) := by decide +kernel
theorem dX9_sumOfSplit_67 : decode cX9_sumOfSplit 67 = .ok (.aload 5, 2) := by decide +kernel
theorem dX9_sumOfSplit_69 : decode cX9_sumOfSplit 69 = .ok (.getfield 187, 3) := by decide +kernel
theorem dX9_sumOfSplit_72 : decode cX9_sumOfSplit 72 = .ok (.iadd, 1) := by decide +kernel
theorem dX9_sumOfSplit_73 : decode cX9_sumOfSplit 73 = .ok (.istore_n 3, 1) := by decide +kernel
theorem dX9_sumOfSplit_74 : decode cX9_sumOfSplit 74 = .ok (.iinc 4 1, 3) := by decide +kernel
theorem dX9_sumOfSplit_77 : decode cX9_sumOfSplit 77 = .ok (.goto (-72), 3) := by decide +kernel
theorem dX9_sumOfSplit_80 : decode cX9_sumOfSplit 80 = .ok (.iload_n 3, 1) := by decide +kernel
theorem dX9_sumOfSplit_81 : decode cX9_sumOfSplit 81 = .ok (.ireturn, 1) := by decide +kernel
theorem dX9_order_0 : decode cX9_order 0 = .ok (.aload_n 0, 1) := by decide +kernel
theorem dX9_order_1 : decode cX9_order 1 = .ok (.iload_n 1, 1) := by decide +kernel
theorem dX9_order_2 : decode cX9_order 2 = .ok (.invokevirtual 200, 3) := by decide +kernel
theorem dX9_order_5 : decode cX9_order 5 = .ok (.astore_n 3, 1) := by decide +kernel
theorem dX9_order_6 : decode cX9_order 6 = .ok (.aload_n 3, 1) := by decide +kernel
theorem dX9_order_7 : decode cX9_order 7 = .ok (.ifnull 40, 3) := by decide +kernel
theorem dX9_order_10 : decode cX9_order 10 = .ok (.aload_n 3, 1) := by decide +kernel
theorem dX9_order_11 : decode cX9_order 11 = .ok (.getfield 233, 3) := by decide +kernel
theorem dX9_order_14 : decode cX9_order 14 = .ok (.iconst 5, 1) := by decide +kernel
theorem dX9_order_15 : decode cX9_order 15 = .ok (.if_icmp .ne 32, 3) := by decide +kernel
theorem dX9_order_18 : decode cX9_order 18 = .ok (.aload_n 3, 1) := by decide +kernel
theorem dX9_order_19 : decode cX9_order 19 = .ok (.getfield 253, 3) := by decide +kernel
theorem dX9_order_22 : decode cX9_order 22 = .ok (.iconst (-1), 1) := by decide +kernel
theorem dX9_order_23 : decode cX9_order 23 = .ok (.if_icmp .ne 24, 3) := by decide +kernel
theorem dX9_order_26 : decode cX9_order 26 = .ok (.aload_n 3, 1) := by decide +kernel
theorem dX9_order_27 : decode cX9_order 27 = .ok (.getfield 212, 3) := by decide +kernel
theorem dX9_order_30 : decode cX9_order 30 = .ok (.getfield 148, 3) := by decide +kernel
theorem dX9_order_33 : decode cX9_order 33 = .ok (.ifCond .ne 14, 3) := by decide +kernel
theorem dX9_order_36 : decode cX9_order 36 = .ok (.iload_n 2, 1) := by decide +kernel
theorem dX9_order_37 : decode cX9_order 37 = .ok (.iconst 1, 1) := by decide +kernel
theorem dX9_order_38 : decode cX9_order 38 = .ok (.sipush 9999, 3) := by decide +kernel
theorem dX9_order_41 : decode cX9_order 41 = .ok (.invokestatic 128, 3) := by decide +kernel
theorem dX9_order_44 : decode cX9_order 44 = .ok (.ifCond .ne 5, 3) := by decide +kernel
theorem dX9_order_47 : decode cX9_order 47 = .ok (.iconst (-1), 1) := by decide +kernel
theorem dX9_order_48 : decode cX9_order 48 = .ok (.ireturn, 1) := by decide +kernel
theorem dX9_order_49 : decode cX9_order 49 = .ok (.aload_n 3, 1) := by decide +kernel
theorem dX9_order_50 : decode cX9_order 50 = .ok (.getfield 187, 3) := by decide +kernel
theorem dX9_order_53 : decode cX9_order 53 = .ok (.aload_n 3, 1) := by decide +kernel
theorem dX9_order_54 : decode cX9_order 54 = .ok (.aload_n 3, 1) := by decide +kernel
theorem dX9_order_55 : decode cX9_order 55 = .ok (.getfield 226, 3) := by decide +kernel
theorem dX9_order_58 : decode cX9_order 58 = .ok (.iconst 1, 1) := by decide +kernel
theorem dX9_order_59 : decode cX9_order 59 = .ok (.invokevirtual 256, 3) := by decide +kernel
theorem dX9_order_62 : decode cX9_order 62 = .ok (.iadd, 1) := by decide +kernel
theorem dX9_order_63 : decode cX9_order 63 = .ok (.istore 4, 2) := by decide +kernel
theorem dX9_order_65 : decode cX9_order 65 = .ok (.iload_n 2, 1) := by decide +kernel
theorem dX9_order_66 : decode cX9_order 66 = .ok (.aload_n 3, 1) := by decide +kernel
theorem dX9_order_67 : decode cX9_order 67 = .ok (.getfield 226, 3) := by decide +kernel
theorem dX9_order_70 : decode cX9_order 70 = .ok (.getfield 119, 3) := by decide +kernel
theorem dX9_order_73 : decode cX9_order 73 = .ok (.iconst 3, 1) := by decide +kernel
theorem dX9_order_74 : decode cX9_order 74 = .ok (.iaload, 1) := by decide +kernel
theorem dX9_order_75 : decode cX9_order 75 = .ok (.if_icmp .ge 12, 3) := by decide +kernel
theorem dX9_order_78 : decode cX9_order 78 = .ok (.iload_n 2, 1) := by decide +kernel
theorem dX9_order_79 : decode cX9_order 79 = .ok (.iload 4, 2) := by decide +kernel
theorem dX9_order_81 : decode cX9_order 81 = .ok (.if_icmp .ge 6, 3) := by decide +kernel
theorem dX9_order_84 : decode cX9_order 84 = .ok (.bipush (-2), 2) := by decide +kernel
theorem dX9_order_86 : decode cX9_order 86 = .ok (.ireturn, 1) := by decide +kernel
theorem dX9_order_87 : decode cX9_order 87 = .ok (.iload_n 2, 1) := by decide +kernel
theorem dX9_order_88 : decode cX9_order 88 = .ok (.aload_n 0, 1) := by decide +kernel
theorem dX9_order_89 : decode cX9_order 89 = .ok (.aload_n 3, 1) := by decide +kernel
theorem dX9_order_90 : decode cX9_order 90 = .ok (.getfield 212, 3) := by decide +kernel
theorem dX9_order_93 : decode cX9_order 93 = .ok (.invokevirtual 260, 3) := by decide +kernel
theorem dX9_order_96 : decode cX9_order 96 = .ok (.iadd, 1) := by decide +kernel
theorem dX9_order_97 : decode cX9_order 97 = .ok (.aload_n 3, 1) := by decide +kernel
theorem dX9_order_98 : decode cX9_order 98 = .ok (.getfield 212, 3) := by decide +kernel
theorem dX9_order_101 : decode cX9_order 101 = .ok (.aload_n 3, 1) := by decide +kernel
theorem dX9_order_102 : decode cX9_order 102 = .ok (.getfield 226, 3) := by decide +kernel
theorem dX9_order_105 : decode cX9_order 105 = .ok (.invokevirtual 264, 3) := by decide +kernel
theorem dX9_order_108 : decode cX9_order 108 = .ok (.if_icmp .le 6, 3) := by decide +kernel
theorem dX9_order_111 : decode cX9_order 111 = .ok (.bipush (-3), 2) := by decide +kernel
theorem dX9_order_113 : decode cX9_order 113 = .ok (.ireturn, 1) := by decide +kernel
theorem dX9_order_114 : decode cX9_order 114 = .ok (.aload_n 3, 1) := by decide +kernel
theorem dX9_order_115 : decode cX9_order 115 = .ok (.iload 4, 2) := by decide +kernel
theorem dX9_order_117 : decode cX9_order 117 = .ok (.putfield 268, 3) := by decide +kernel
theorem dX9_order_120 : decode cX9_order 120 = .ok (.aload_n 3, 1) := by decide +kernel
theorem dX9_order_121 : decode cX9_order 121 = .ok (.iload_n 2, 1) := by decide +kernel
theorem dX9_order_122 : decode cX9_order 122 = .ok (.putfield 271, 3) := by decide +kernel
theorem dX9_order_125 : decode cX9_order 125 = .ok (.aload_n 3, 1) := by decide +kernel
theorem dX9_order_126 : decode cX9_order 126 = .ok (.aload_n 0, 1) := by decide +kernel
theorem dX9_order_127 : decode cX9_order 127 = .ok (.getfield 94, 3) := by decide +kernel
theorem dX9_order_130 : decode cX9_order 130 = .ok (.putfield 253, 3) := by decide +kernel
theorem dX9_order_133 : decode cX9_order 133 = .ok (.iload 4, 2) := by decide +kernel
theorem dX9_order_135 : decode cX9_order 135 = .ok (.ireturn, 1) := by decide +kernel
theorem dX9_openInstalments_0 : decode cX9_openInstalments 0 = .ok (.iconst 0, 1) := by decide +kernel
theorem dX9_openInstalments_1 : decode cX9_openInstalments 1 = .ok (.istore_n 2, 1) := by decide +kernel
theorem dX9_openInstalments_2 : decode cX9_openInstalments 2 = .ok (.iconst 0, 1) := by decide +kernel
theorem dX9_openInstalments_3 : decode cX9_openInstalments 3 = .ok (.istore_n 3, 1) := by decide +kernel
theorem dX9_openInstalments_4 : decode cX9_openInstalments 4 = .ok (.iload_n 3, 1) := by decide +kernel
theorem dX9_openInstalments_5 : decode cX9_openInstalments 5 = .ok (.aload_n 0, 1) := by decide +kernel
theorem dX9_openInstalments_6 : decode cX9_openInstalments 6 = .ok (.getfield 181, 3) := by decide +kernel
theorem dX9_openInstalments_9 : decode cX9_openInstalments 9 = .ok (.if_icmp .ge 54, 3) := by decide +kernel
theorem dX9_openInstalments_12 : decode cX9_openInstalments 12 = .ok (.aload_n 0, 1) := by decide +kernel
theorem dX9_openInstalments_13 : decode cX9_openInstalments 13 = .ok (.getfield 48, 3) := by decide +kernel
theorem dX9_openInstalments_16 : decode cX9_openInstalments 16 = .ok (.iload_n 3, 1) := by decide +kernel
theorem dX9_openInstalments_17 : decode cX9_openInstalments 17 = .ok (.aaload, 1) := by decide +kernel
theorem dX9_openInstalments_18 : decode cX9_openInstalments 18 = .ok (.getfield 212, 3) := by decide +kernel
theorem dX9_openInstalments_21 : decode cX9_openInstalments 21 = .ok (.aload_n 1, 1) := by decide +kernel
theorem dX9_openInstalments_22 : decode cX9_openInstalments 22 = .ok (.if_acmp .ne 35, 3) := by decide +kernel
theorem dX9_openInstalments_25 : decode cX9_openInstalments 25 = .ok (.aload_n 0, 1) := by decide +kernel
theorem dX9_openInstalments_26 : decode cX9_openInstalments 26 = .ok (.getfield 48, 3) := by decide +kernel
theorem dX9_openInstalments_29 : decode cX9_openInstalments 29 = .ok (.iload_n 3, 1) := by decide +kernel
theorem dX9_openInstalments_30 : decode cX9_openInstalments 30 = .ok (.aaload, 1) := by decide +kernel
theorem dX9_openInstalments_31 : decode cX9_openInstalments 31 = .ok (.aload_n 0, 1) := by decide +kernel
theorem dX9_openInstalments_32 : decode cX9_openInstalments 32 = .ok (.getfield 58, 3) := by decide +kernel
theorem dX9_openInstalments_35 : decode cX9_openInstalments 35 = .ok (.aload_n 0, 1) := by decide +kernel
theorem dX9_openInstalments_36 : decode cX9_openInstalments 36 = .ok (.getfield 94, 3) := by decide +kernel
theorem dX9_openInstalments_39 : decode cX9_openInstalments 39 = .ok (.invokevirtual 274, 3) := by decide +kernel
theorem dX9_openInstalments_42 : decode cX9_openInstalments 42 = .ok (.ifCond .eq 15, 3) := by decide +kernel
theorem dX9_openInstalments_45 : decode cX9_openInstalments 45 = .ok (.iload_n 2, 1) := by decide +kernel
theorem dX9_openInstalments_46 : decode cX9_openInstalments 46 = .ok (.aload_n 0, 1) := by decide +kernel
theorem dX9_openInstalments_47 : decode cX9_openInstalments 47 = .ok (.getfield 48, 3) := by decide +kernel
theorem dX9_openInstalments_50 : decode cX9_openInstalments 50 = .ok (.iload_n 3, 1) := by decide +kernel
theorem dX9_openInstalments_51 : decode cX9_openInstalments 51 = .ok (.aaload, 1) := by decide +kernel
theorem dX9_openInstalments_52 : decode cX9_openInstalments 52 = .ok (.getfield 271, 3) := by decide +kernel
theorem dX9_openInstalments_55 : decode cX9_openInstalments 55 = .ok (.iadd, 1) := by decide +kernel
theorem dX9_openInstalments_56 : decode cX9_openInstalments 56 = .ok (.istore_n 2, 1) := by decide +kernel
theorem dX9_openInstalments_57 : decode cX9_openInstalments 57 = .ok (.iinc 3 1, 3) := by decide +kernel
theorem dX9_openInstalments_60 : decode cX9_openInstalments 60 = .ok (.goto (-56), 3) := by decide +kernel
theorem dX9_openInstalments_63 : decode cX9_openInstalments 63 = .ok (.iload_n 2, 1) := by decide +kernel
theorem dX9_openInstalments_64 : decode cX9_openInstalments 64 = .ok (.ireturn, 1) := by decide +kernel
theorem dX9_pay_0 : decode cX9_pay 0 = .ok (.aload_n 0, 1) := by decide +kernel
theorem dX9_pay_1 : decode cX9_pay 1 = .ok (.iload_n 1, 1) := by decide +kernel
theorem dX9_pay_2 : decode cX9_pay 2 = .ok (.invokevirtual 200, 3) := by decide +kernel
theorem dX9_pay_5 : decode cX9_pay 5 = .ok (.astore 4, 2) := by decide +kernel
theorem dX9_pay_7 : decode cX9_pay 7 = .ok (.aload_n 0, 1) := by decide +kernel
theorem dX9_pay_8 : decode cX9_pay 8 = .ok (.getfield 58, 3) := by decide +kernel
theorem dX9_pay_11 : decode cX9_pay 11 = .ok (.getfield 278, 3) := by decide +kernel
theorem dX9_pay_14 : decode cX9_pay 14 = .ok (.sipush 600, 3) := by decide +kernel
theorem dX9_pay_17 : decode cX9_pay 17 = .ok (.if_icmp .ge 53, 3) := by decide +kernel
theorem dX9_pay_20 : decode cX9_pay 20 = .ok (.aload 4, 2) := by decide +kernel
theorem dX9_pay_22 : decode cX9_pay 22 = .ok (.ifnull 48, 3) := by decide +kernel
theorem dX9_pay_25 : decode cX9_pay 25 = .ok (.aload 4, 2) := by decide +kernel
theorem dX9_pay_27 : decode cX9_pay 27 = .ok (.getfield 253, 3) := by decide +kernel
theorem dX9_pay_30 : decode cX9_pay 30 = .ok (.iconst (-1), 1) := by decide +kernel
theorem dX9_pay_31 : decode cX9_pay 31 = .ok (.if_icmp .eq 39, 3) := by decide +kernel
theorem dX9_pay_34 : decode cX9_pay 34 = .ok (.aload 4, 2) := by decide +kernel
theorem dX9_pay_36 : decode cX9_pay 36 = .ok (.getfield 279, 3) := by decide +kernel
theorem dX9_pay_39 : decode cX9_pay 39 = .ok (.iconst (-1), 1) := by decide +kernel
theorem dX9_pay_40 : decode cX9_pay 40 = .ok (.if_icmp .ne 30, 3) := by decide +kernel
theorem dX9_pay_43 : decode cX9_pay 43 = .ok (.iload_n 2, 1) := by decide +kernel
theorem dX9_pay_44 : decode cX9_pay 44 = .ok (.aload 4, 2) := by decide +kernel
theorem dX9_pay_46 : decode cX9_pay 46 = .ok (.getfield 253, 3) := by decide +kernel
theorem dX9_pay_49 : decode cX9_pay 49 = .ok (.aload_n 0, 1) := by decide +kernel
theorem dX9_pay_50 : decode cX9_pay 50 = .ok (.getfield 94, 3) := by decide +kernel
theorem dX9_pay_53 : decode cX9_pay 53 = .ok (.invokestatic 128, 3) := by decide +kernel
theorem dX9_pay_56 : decode cX9_pay 56 = .ok (.ifCond .eq 14, 3) := by decide +kernel
theorem dX9_pay_59 : decode cX9_pay 59 = .ok (.iload_n 3, 1) := by decide +kernel
theorem dX9_pay_60 : decode cX9_pay 60 = .ok (.iconst 1, 1) := by decide +kernel
theorem dX9_pay_61 : decode cX9_pay 61 = .ok (.sipush 9999, 3) := by decide +kernel
theorem dX9_pay_64 : decode cX9_pay 64 = .ok (.invokestatic 128, 3) := by decide +kernel
theorem dX9_pay_67 : decode cX9_pay 67 = .ok (.ifCond .ne 5, 3) := by decide +kernel
theorem dX9_pay_70 : decode cX9_pay 70 = .ok (.iconst (-1), 1) := by decide +kernel
theorem dX9_pay_71 : decode cX9_pay 71 = .ok (.ireturn, 1) := by decide +kernel
theorem dX9_pay_72 : decode cX9_pay 72 = .ok (.aload_n 0, 1) := by decide +kernel
theorem dX9_pay_73 : decode cX9_pay 73 = .ok (.getfield 58, 3) := by decide +kernel
theorem dX9_pay_76 : decode cX9_pay 76 = .ok (.iload_n 1, 1) := by decide +kernel
theorem dX9_pay_77 : decode cX9_pay 77 = .ok (.iload_n 2, 1) := by decide +kernel
theorem dX9_pay_78 : decode cX9_pay 78 = .ok (.aload_n 0, 1) := by decide +kernel
theorem dX9_pay_79 : decode cX9_pay 79 = .ok (.getfield 94, 3) := by decide +kernel
theorem dX9_pay_82 : decode cX9_pay 82 = .ok (.iload_n 3, 1) := by decide +kernel
theorem dX9_pay_83 : decode cX9_pay 83 = .ok (.invokevirtual 282, 3) := by decide +kernel
theorem dX9_pay_86 : decode cX9_pay 86 = .ok (.ireturn, 1) := by decide +kernel
theorem dX9_strike_0 : decode cX9_strike 0 = .ok (.iload_n 1, 1) := by decide +kernel
theorem dX9_strike_1 : decode cX9_strike 1 = .ok (.ifCond .lt 27, 3) := by decide +kernel
theorem dX9_strike_4 : decode cX9_strike 4 = .ok (.iload_n 1, 1) := by decide +kernel
theorem dX9_strike_5 : decode cX9_strike 5 = .ok (.aload_n 0, 1) := by decide +kernel
theorem dX9_strike_6 : decode cX9_strike 6 = .ok (.getfield 58, 3) := by decide +kernel
theorem dX9_strike_9 : decode cX9_strike 9 = .ok (.getfield 278, 3) := by decide +kernel
theorem dX9_strike_12 : decode cX9_strike 12 = .ok (.if_icmp .ge 16, 3) := by decide +kernel
theorem dX9_strike_15 : decode cX9_strike 15 = .ok (.aload_n 0, 1) := by decide +kernel
theorem dX9_strike_16 : decode cX9_strike 16 = .ok (.getfield 58, 3) := by decide +kernel
theorem dX9_strike_19 : decode cX9_strike 19 = .ok (.getfield 286, 3) := by decide +kernel
theorem dX9_strike_22 : decode cX9_strike 22 = .ok (.iload_n 1, 1) := by decide +kernel
theorem dX9_strike_23 : decode cX9_strike 23 = .ok (.iaload, 1) := by decide +kernel
theorem dX9_strike_24 : decode cX9_strike 24 = .ok (.iconst (-1), 1) := by decide +kernel
theorem dX9_strike_25 : decode cX9_strike 25 = .ok (.if_icmp .eq 5, 3) := by decide +kernel
theorem dX9_strike_28 : decode cX9_strike 28 = .ok (.iconst 0, 1) := by decide +kernel
theorem dX9_strike_29 : decode cX9_strike 29 = .ok (.ireturn, 1) := by decide +kernel
theorem dX9_strike_30 : decode cX9_strike 30 = .ok (.aload_n 0, 1) := by decide +kernel
theorem dX9_strike_31 : decode cX9_strike 31 = .ok (.getfield 58, 3) := by decide +kernel
theorem dX9_strike_34 : decode cX9_strike 34 = .ok (.getfield 286, 3) := by decide +kernel
theorem dX9_strike_37 : decode cX9_strike 37 = .ok (.iload_n 1, 1) := by decide +kernel
theorem dX9_strike_38 : decode cX9_strike 38 = .ok (.aload_n 0, 1) := by decide +kernel
theorem dX9_strike_39 : decode cX9_strike 39 = .ok (.getfield 94, 3) := by decide +kernel
theorem dX9_strike_42 : decode cX9_strike 42 = .ok (.iastore, 1) := by decide +kernel
theorem dX9_strike_43 : decode cX9_strike 43 = .ok (.iconst 1, 1) := by decide +kernel
theorem dX9_strike_44 : decode cX9_strike 44 = .ok (.ireturn, 1) := by decide +kernel
theorem dX9_seize_0 : decode cX9_seize 0 = .ok (.aload_n 0, 1) := by decide +kernel
theorem dX9_seize_1 : decode cX9_seize 1 = .ok (.iload_n 1, 1) := by decide +kernel
theorem dX9_seize_2 : decode cX9_seize 2 = .ok (.invokevirtual 200, 3) := by decide +kernel
theorem dX9_seize_5 : decode cX9_seize 5 = .ok (.astore_n 3, 1) := by decide +kernel
theorem dX9_seize_6 : decode cX9_seize 6 = .ok (.aload_n 3, 1) := by decide +kernel
theorem dX9_seize_7 : decode cX9_seize 7 = .ok (.ifnull 22, 3) := by decide +kernel
theorem dX9_seize_10 : decode cX9_seize 10 = .ok (.aload_n 3, 1) := by decide +kernel
theorem dX9_seize_11 : decode cX9_seize 11 = .ok (.getfield 289, 3) := by decide +kernel
theorem dX9_seize_14 : decode cX9_seize 14 = .ok (.iconst (-1), 1) := by decide +kernel
theorem dX9_seize_15 : decode cX9_seize 15 = .ok (.if_icmp .ne 14, 3) := by decide +kernel
theorem dX9_seize_18 : decode cX9_seize 18 = .ok (.iload_n 2, 1) := by decide +kernel
theorem dX9_seize_19 : decode cX9_seize 19 = .ok (.iconst 1, 1) := by decide +kernel
theorem dX9_seize_20 : decode cX9_seize 20 = .ok (.sipush 9999, 3) := by decide +kernel
theorem dX9_seize_23 : decode cX9_seize 23 = .ok (.invokestatic 128, 3) := by decide +kernel
theorem dX9_seize_26 : decode cX9_seize 26 = .ok (.ifCond .ne 6, 3) := by decide +kernel
theorem dX9_seize_29 : decode cX9_seize 29 = .ok (.ldc 169, 2) := by decide +kernel
theorem dX9_seize_31 : decode cX9_seize 31 = .ok (.ireturn, 1) := by decide +kernel
theorem dX9_seize_32 : decode cX9_seize 32 = .ok (.aload_n 3, 1) := by decide +kernel
theorem dX9_seize_33 : decode cX9_seize 33 = .ok (.aload_n 0, 1) := by decide +kernel
theorem dX9_seize_34 : decode cX9_seize 34 = .ok (.getfield 58, 3) := by decide +kernel
theorem dX9_seize_37 : decode cX9_seize 37 = .ok (.aload_n 0, 1) := by decide +kernel
theorem dX9_seize_38 : decode cX9_seize 38 = .ok (.getfield 94, 3) := by decide +kernel
theorem dX9_seize_41 : decode cX9_seize 41 = .ok (.aload_n 0, 1) := by decide +kernel
theorem dX9_seize_42 : decode cX9_seize 42 = .ok (.getfield 94, 3) := by decide +kernel
theorem dX9_seize_45 : decode cX9_seize 45 = .ok (.invokevirtual 292, 3) := by decide +kernel
theorem dX9_seize_48 : decode cX9_seize 48 = .ok (.istore 4, 2) := by decide +kernel
theorem dX9_seize_50 : decode cX9_seize 50 = .ok (.iload 4, 2) := by decide +kernel
theorem dX9_seize_52 : decode cX9_seize 52 = .ok (.iconst 5, 1) := by decide +kernel
theorem dX9_seize_53 : decode cX9_seize 53 = .ok (.if_icmp .eq 13, 3) := by decide +kernel
theorem dX9_seize_56 : decode cX9_seize 56 = .ok (.iload 4, 2) := by decide +kernel
theorem dX9_seize_58 : decode cX9_seize 58 = .ok (.bipush 6, 2) := by decide +kernel
theorem dX9_seize_60 : decode cX9_seize 60 = .ok (.if_icmp .eq 6, 3) := by decide +kernel
theorem dX9_seize_63 : decode cX9_seize 63 = .ok (.ldc 169, 2) := by decide +kernel
theorem dX9_seize_65 : decode cX9_seize 65 = .ok (.ireturn, 1) := by decide +kernel
theorem dX9_seize_66 : decode cX9_seize 66 = .ok (.aload_n 3, 1) := by decide +kernel
theorem dX9_seize_67 : decode cX9_seize 67 = .ok (.aload_n 0, 1) := by decide +kernel
theorem dX9_seize_68 : decode cX9_seize 68 = .ok (.getfield 94, 3) := by decide +kernel
theorem dX9_seize_71 : decode cX9_seize 71 = .ok (.putfield 289, 3) := by decide +kernel
theorem dX9_seize_74 : decode cX9_seize 74 = .ok (.aload_n 3, 1) := by decide +kernel
theorem dX9_seize_75 : decode cX9_seize 75 = .ok (.iload_n 2, 1) := by decide +kernel
theorem dX9_seize_76 : decode cX9_seize 76 = .ok (.putfield 296, 3) := by decide +kernel
theorem dX9_seize_79 : decode cX9_seize 79 = .ok (.aload_n 3, 1) := by decide +kernel
theorem dX9_seize_80 : decode cX9_seize 80 = .ok (.aload_n 0, 1) := by decide +kernel
theorem dX9_seize_81 : decode cX9_seize 81 = .ok (.getfield 58, 3) := by decide +kernel
theorem dX9_seize_84 : decode cX9_seize 84 = .ok (.aload_n 0, 1) := by decide +kernel
theorem dX9_seize_85 : decode cX9_seize 85 = .ok (.getfield 94, 3) := by decide +kernel
theorem dX9_seize_88 : decode cX9_seize 88 = .ok (.aload_n 0, 1) := by decide +kernel
theorem dX9_seize_89 : decode cX9_seize 89 = .ok (.getfield 94, 3) := by decide +kernel
theorem dX9_seize_92 : decode cX9_seize 92 = .ok (.invokevirtual 299, 3) := by decide +kernel
theorem dX9_seize_95 : decode cX9_seize 95 = .ok (.ireturn, 1) := by decide +kernel
theorem dX9_gaol_0 : decode cX9_gaol 0 = .ok (.aload_n 0, 1) := by decide +kernel
theorem dX9_gaol_1 : decode cX9_gaol 1 = .ok (.iload_n 1, 1) := by decide +kernel
theorem dX9_gaol_2 : decode cX9_gaol 2 = .ok (.invokevirtual 200, 3) := by decide +kernel
theorem dX9_gaol_5 : decode cX9_gaol 5 = .ok (.astore_n 2, 1) := by decide +kernel
theorem dX9_gaol_6 : decode cX9_gaol 6 = .ok (.aload_n 2, 1) := by decide +kernel
theorem dX9_gaol_7 : decode cX9_gaol 7 = .ok (.ifnull 42, 3) := by decide +kernel
theorem dX9_gaol_10 : decode cX9_gaol 10 = .ok (.aload_n 2, 1) := by decide +kernel
theorem dX9_gaol_11 : decode cX9_gaol 11 = .ok (.getfield 289, 3) := by decide +kernel
theorem dX9_gaol_14 : decode cX9_gaol 14 = .ok (.iconst (-1), 1) := by decide +kernel
theorem dX9_gaol_15 : decode cX9_gaol 15 = .ok (.if_icmp .eq 34, 3) := by decide +kernel
theorem dX9_gaol_18 : decode cX9_gaol 18 = .ok (.aload_n 2, 1) := by decide +kernel
theorem dX9_gaol_19 : decode cX9_gaol 19 = .ok (.getfield 212, 3) := by decide +kernel
theorem dX9_gaol_22 : decode cX9_gaol 22 = .ok (.getfield 148, 3) := by decide +kernel
theorem dX9_gaol_25 : decode cX9_gaol 25 = .ok (.ifCond .ne 24, 3) := by decide +kernel
theorem dX9_gaol_28 : decode cX9_gaol 28 = .ok (.aload_n 2, 1) := by decide +kernel
theorem dX9_gaol_29 : decode cX9_gaol 29 = .ok (.aload_n 0, 1) := by decide +kernel
theorem dX9_gaol_30 : decode cX9_gaol 30 = .ok (.getfield 58, 3) := by decide +kernel
theorem dX9_gaol_33 : decode cX9_gaol 33 = .ok (.aload_n 0, 1) := by decide +kernel
theorem dX9_gaol_34 : decode cX9_gaol 34 = .ok (.getfield 94, 3) := by decide +kernel
theorem dX9_gaol_37 : decode cX9_gaol 37 = .ok (.aload_n 0, 1) := by decide +kernel
theorem dX9_gaol_38 : decode cX9_gaol 38 = .ok (.getfield 94, 3) := by decide +kernel
theorem dX9_gaol_41 : decode cX9_gaol 41 = .ok (.invokevirtual 292, 3) := by decide +kernel
theorem dX9_gaol_44 : decode cX9_gaol 44 = .ok (.bipush 6, 2) := by decide +kernel
theorem dX9_gaol_46 : decode cX9_gaol 46 = .ok (.if_icmp .eq 5, 3) := by decide +kernel
theorem dX9_gaol_49 : decode cX9_gaol 49 = .ok (.iconst (-1), 1) := by decide +kernel
theorem dX9_gaol_50 : decode cX9_gaol 50 = .ok (.ireturn, 1) := by decide +kernel
theorem dX9_gaol_51 : decode cX9_gaol 51 = .ok (.aload_n 2, 1) := by decide +kernel
theorem dX9_gaol_52 : decode cX9_gaol 52 = .ok (.aload_n 0, 1) := by decide +kernel
theorem dX9_gaol_53 : decode cX9_gaol 53 = .ok (.getfield 58, 3) := by decide +kernel
theorem dX9_gaol_56 : decode cX9_gaol 56 = .ok (.aload_n 0, 1) := by decide +kernel
theorem dX9_gaol_57 : decode cX9_gaol 57 = .ok (.getfield 94, 3) := by decide +kernel
theorem dX9_gaol_60 : decode cX9_gaol 60 = .ok (.aload_n 0, 1) := by decide +kernel
theorem dX9_gaol_61 : decode cX9_gaol 61 = .ok (.getfield 94, 3) := by decide +kernel
theorem dX9_gaol_64 : decode cX9_gaol 64 = .ok (.invokevirtual 302, 3) := by decide +kernel
theorem dX9_gaol_67 : decode cX9_gaol 67 = .ok (.bipush 12, 2) := by decide +kernel
theorem dX9_gaol_69 : decode cX9_gaol 69 = .ok (.invokestatic 305, 3) := by decide +kernel
theorem dX9_gaol_72 : decode cX9_gaol 72 = .ok (.aload_n 2, 1) := by decide +kernel
theorem dX9_gaol_73 : decode cX9_gaol 73 = .ok (.getfield 226, 3) := by decide +kernel
theorem dX9_gaol_76 : decode cX9_gaol 76 = .ok (.getfield 119, 3) := by decide +kernel
theorem dX9_gaol_79 : decode cX9_gaol 79 = .ok (.bipush 7, 2) := by decide +kernel
theorem dX9_gaol_81 : decode cX9_gaol 81 = .ok (.iaload, 1) := by decide +kernel
theorem dX9_gaol_82 : decode cX9_gaol 82 = .ok (.imul, 1) := by decide +kernel
theorem dX9_gaol_83 : decode cX9_gaol 83 = .ok (.istore_n 3, 1) := by decide +kernel
theorem dX9_gaol_84 : decode cX9_gaol 84 = .ok (.aload_n 2, 1) := by decide +kernel
theorem dX9_gaol_85 : decode cX9_gaol 85 = .ok (.aload_n 0, 1) := by decide +kernel
theorem dX9_gaol_86 : decode cX9_gaol 86 = .ok (.getfield 94, 3) := by decide +kernel
theorem dX9_gaol_89 : decode cX9_gaol 89 = .ok (.putfield 279, 3) := by decide +kernel
theorem dX9_gaol_92 : decode cX9_gaol 92 = .ok (.iload_n 3, 1) := by decide +kernel
theorem dX9_gaol_93 : decode cX9_gaol 93 = .ok (.aload_n 2, 1) := by decide +kernel
theorem dX9_gaol_94 : decode cX9_gaol 94 = .ok (.getfield 226, 3) := by decide +kernel
theorem dX9_gaol_97 : decode cX9_gaol 97 = .ok (.getfield 119, 3) := by decide +kernel
theorem dX9_gaol_100 : decode cX9_gaol 100 = .ok (.bipush 8, 2) := by decide +kernel
theorem dX9_gaol_102 : decode cX9_gaol 102 = .ok (.iaload, 1) := by decide +kernel
theorem dX9_gaol_103 : decode cX9_gaol 103 = .ok (.invokestatic 309, 3) := by decide +kernel
theorem dX9_gaol_106 : decode cX9_gaol 106 = .ok (.ireturn, 1) := by decide +kernel
theorem dX9_claim_0 : decode cX9_claim 0 = .ok (.aload_n 0, 1) := by decide +kernel
theorem dX9_claim_1 : decode cX9_claim 1 = .ok (.iload_n 1, 1) := by decide +kernel
theorem dX9_claim_2 : decode cX9_claim 2 = .ok (.invokevirtual 200, 3) := by decide +kernel
theorem dX9_claim_5 : decode cX9_claim 5 = .ok (.astore_n 3, 1) := by decide +kernel
theorem dX9_claim_6 : decode cX9_claim 6 = .ok (.aload_n 3, 1) := by decide +kernel
theorem dX9_claim_7 : decode cX9_claim 7 = .ok (.ifnonnull 5, 3) := by decide +kernel
theorem dX9_claim_10 : decode cX9_claim 10 = .ok (.iconst (-1), 1) := by decide +kernel
theorem dX9_claim_11 : decode cX9_claim 11 = .ok (.ireturn, 1) := by decide +kernel
theorem dX9_claim_12 : decode cX9_claim 12 = .ok (.iload_n 2, 1) := by decide +kernel
theorem dX9_claim_13 : decode cX9_claim 13 = .ok (.tableswitch 165 0 13 #[71, 79, 87, 92, 97, 102, 107, 114, 121, 128, 133, 138, 143, 151], 71) := by decide +kernel
theorem dX9_claim_84 : decode cX9_claim 84 = .ok (.aload_n 3, 1) := by decide +kernel
theorem dX9_claim_85 : decode cX9_claim 85 = .ok (.getfield 223, 3) := by decide +kernel
theorem dX9_claim_88 : decode cX9_claim 88 = .ok (.getfield 143, 3) := by decide +kernel
theorem dX9_claim_91 : decode cX9_claim 91 = .ok (.ireturn, 1) := by decide +kernel
theorem dX9_claim_92 : decode cX9_claim 92 = .ok (.aload_n 3, 1) := by decide +kernel
theorem dX9_claim_93 : decode cX9_claim 93 = .ok (.getfield 212, 3) := by decide +kernel
theorem dX9_claim_96 : decode cX9_claim 96 = .ok (.getfield 143, 3) := by decide +kernel
theorem dX9_claim_99 : decode cX9_claim 99 = .ok (.ireturn, 1) := by decide +kernel
theorem dX9_claim_100 : decode cX9_claim 100 = .ok (.aload_n 3, 1) := by decide +kernel
theorem dX9_claim_101 : decode cX9_claim 101 = .ok (.getfield 187, 3) := by decide +kernel
theorem dX9_claim_104 : decode cX9_claim 104 = .ok (.ireturn, 1) := by decide +kernel
theorem dX9_claim_105 : decode cX9_claim 105 = .ok (.aload_n 3, 1) := by decide +kernel
theorem dX9_claim_106 : decode cX9_claim 106 = .ok (.getfield 193, 3) := by decide +kernel
theorem dX9_claim_109 : decode cX9_claim 109 = .ok (.ireturn, 1) := by decide +kernel
theorem dX9_claim_110 : decode cX9_claim 110 = .ok (.aload_n 3, 1) := by decide +kernel
theorem dX9_claim_111 : decode cX9_claim 111 = .ok (.getfield 207, 3) := by decide +kernel
theorem dX9_claim_114 : decode cX9_claim 114 = .ok (.ireturn, 1) := by decide +kernel
theorem dX9_claim_115 : decode cX9_claim 115 = .ok (.aload_n 3, 1) := by decide +kernel
theorem dX9_claim_116 : decode cX9_claim 116 = .ok (.getfield 233, 3) := by decide +kernel
theorem dX9_claim_119 : decode cX9_claim 119 = .ok (.ireturn, 1) := by decide +kernel
theorem dX9_claim_120 : decode cX9_claim 120 = .ok (.aload_n 3, 1) := by decide +kernel
theorem dX9_claim_121 : decode cX9_claim 121 = .ok (.getfield 240, 3) := by decide +kernel
theorem dX9_claim_124 : decode cX9_claim 124 = .ok (.iconst 0, 1) := by decide +kernel
theorem dX9_claim_125 : decode cX9_claim 125 = .ok (.iaload, 1) := by decide +kernel
theorem dX9_claim_126 : decode cX9_claim 126 = .ok (.ireturn, 1) := by decide +kernel
theorem dX9_claim_127 : decode cX9_claim 127 = .ok (.aload_n 3, 1) := by decide +kernel
theorem dX9_claim_128 : decode cX9_claim 128 = .ok (.getfield 240, 3) := by decide +kernel
theorem dX9_claim_131 : decode cX9_claim 131 = .ok (.iconst 1, 1) := by decide +kernel
theorem dX9_claim_132 : decode cX9_claim 132 = .ok (.iaload, 1) := by decide +kernel
theorem dX9_claim_133 : decode cX9_claim 133 = .ok (.ireturn, 1) := by decide +kernel
theorem dX9_claim_134 : decode cX9_claim 134 = .ok (.aload_n 3, 1) := by decide +kernel
theorem dX9_claim_135 : decode cX9_claim 135 = .ok (.getfield 240, 3) := by decide +kernel
theorem dX9_claim_138 : decode cX9_claim 138 = .ok (.iconst 2, 1) := by decide +kernel
theorem dX9_claim_139 : decode cX9_claim 139 = .ok (.iaload, 1) := by decide +kernel
theorem dX9_claim_140 : decode cX9_claim 140 = .ok (.ireturn, 1) := by decide +kernel
theorem dX9_claim_141 : decode cX9_claim 141 = .ok (.aload_n 3, 1) := by decide +kernel
theorem dX9_claim_142 : decode cX9_claim 142 = .ok (.getfield 253, 3) := by decide +kernel
theorem dX9_claim_145 : decode cX9_claim 145 = .ok (.ireturn, 1) := by decide +kernel
theorem dX9_claim_146 : decode cX9_claim 146 = .ok (.aload_n 3, 1) := by decide +kernel
theorem dX9_claim_147 : decode cX9_claim 147 = .ok (.getfield 271, 3) := by decide +kernel
theorem dX9_claim_150 : decode cX9_claim 150 = .ok (.ireturn, 1) := by decide +kernel
theorem dX9_claim_151 : decode cX9_claim 151 = .ok (.aload_n 3, 1) := by decide +kernel
theorem dX9_claim_152 : decode cX9_claim 152 = .ok (.getfield 268, 3) := by decide +kernel
theorem dX9_claim_155 : decode cX9_claim 155 = .ok (.ireturn, 1) := by decide +kernel
theorem dX9_claim_156 : decode cX9_claim 156 = .ok (.aload_n 3, 1) := by decide +kernel
theorem dX9_claim_157 : decode cX9_claim 157 = .ok (.getfield 226, 3) := by decide +kernel
theorem dX9_claim_160 : decode cX9_claim 160 = .ok (.getfield 112, 3) := by decide +kernel
theorem dX9_claim_163 : decode cX9_claim 163 = .ok (.ireturn, 1) := by decide +kernel
theorem dX9_claim_164 : decode cX9_claim 164 = .ok (.aload_n 3, 1) := by decide +kernel
theorem dX9_claim_165 : decode cX9_claim 165 = .ok (.getfield 289, 3) := by decide +kernel
theorem dX9_claim_168 : decode cX9_claim 168 = .ok (.iconst (-1), 1) := by decide +kernel
theorem dX9_claim_169 : decode cX9_claim 169 = .ok (.if_icmp .ne 7, 3) := by decide +kernel
theorem dX9_claim_172 : decode cX9_claim 172 = .ok (.iconst 0, 1) := by decide +kernel
theorem dX9_claim_173 : decode cX9_claim 173 = .ok (.goto 4, 3) := by decide +kernel
theorem dX9_claim_176 : decode cX9_claim 176 = .ok (.iconst 1, 1) := by decide +kernel
theorem dX9_claim_177 : decode cX9_claim 177 = .ok (.ireturn, 1) := by decide +kernel
theorem dX9_claim_178 : decode cX9_claim 178 = .ok (.iconst (-1), 1) := by decide +kernel
theorem dX9_claim_179 : decode cX9_claim 179 = .ok (.ireturn, 1) := by decide +kernel
theorem dX9_state_0 : decode cX9_state 0 = .ok (.aload_n 0, 1) := by decide +kernel
theorem dX9_state_1 : decode cX9_state 1 = .ok (.iload_n 1, 1) := by decide +kernel
theorem dX9_state_2 : decode cX9_state 2 = .ok (.invokevirtual 200, 3) := by decide +kernel
theorem dX9_state_5 : decode cX9_state 5 = .ok (.astore 5, 2) := by decide +kernel
theorem dX9_state_7 : decode cX9_state 7 = .ok (.aload 5, 2) := by decide +kernel
theorem dX9_state_9 : decode cX9_state 9 = .ok (.ifnull 33, 3) := by decide +kernel
theorem dX9_state_12 : decode cX9_state 12 = .ok (.iload_n 2, 1) := by decide +kernel
theorem dX9_state_13 : decode cX9_state 13 = .ok (.aload 5, 2) := by decide +kernel
theorem dX9_state_15 : decode cX9_state 15 = .ok (.getfield 193, 3) := by decide +kernel
theorem dX9_state_18 : decode cX9_state 18 = .ok (.sipush 7999, 3) := by decide +kernel
theorem dX9_state_21 : decode cX9_state 21 = .ok (.invokestatic 128, 3) := by decide +kernel
theorem dX9_state_24 : decode cX9_state 24 = .ok (.ifCond .eq 18, 3) := by decide +kernel
theorem dX9_state_27 : decode cX9_state 27 = .ok (.iload_n 3, 1) := by decide +kernel
theorem dX9_state_28 : decode cX9_state 28 = .ok (.aload 5, 2) := by decide +kernel
theorem dX9_state_30 : decode cX9_state 30 = .ok (.getfield 193, 3) := by decide +kernel
theorem dX9_state_33 : decode cX9_state 33 = .ok (.sipush 7999, 3) := by decide +kernel
theorem dX9_state_36 : decode cX9_state 36 = .ok (.invokestatic 128, 3) := by decide +kernel
theorem dX9_state_39 : decode cX9_state 39 = .ok (.ifCond .ne 5, 3) := by decide +kernel
theorem dX9_state_42 : decode cX9_state 42 = .ok (.iconst (-1), 1) := by decide +kernel
theorem dX9_state_43 : decode cX9_state 43 = .ok (.ireturn, 1) := by decide +kernel
theorem dX9_state_44 : decode cX9_state 44 = .ok (.iload 4, 2) := by decide +kernel
theorem dX9_state_46 : decode cX9_state 46 = .ok (.tableswitch 94 0 4 #[34, 46, 58, 70, 82], 34) := by decide +kernel
theorem dX9_state_80 : decode cX9_state 80 = .ok (.aload 5, 2) := by decide +kernel
theorem dX9_state_82 : decode cX9_state 82 = .ok (.aload_n 0, 1) := by decide +kernel
theorem dX9_state_83 : decode cX9_state 83 = .ok (.getfield 58, 3) := by decide +kernel
theorem dX9_state_86 : decode cX9_state 86 = .ok (.iload_n 2, 1) := by decide +kernel
theorem dX9_state_87 : decode cX9_state 87 = .ok (.iload_n 3, 1) := by decide +kernel
theorem dX9_state_88 : decode cX9_state 88 = .ok (.invokevirtual 292, 3) := by decide +kernel
theorem dX9_state_91 : decode cX9_state 91 = .ok (.ireturn, 1) := by decide +kernel
theorem dX9_state_92 : decode cX9_state 92 = .ok (.aload 5, 2) := by decide +kernel
theorem dX9_state_94 : decode cX9_state 94 = .ok (.aload_n 0, 1) := by decide +kernel
theorem dX9_state_95 : decode cX9_state 95 = .ok (.getfield 58, 3) := by decide +kernel
theorem dX9_state_98 : decode cX9_state 98 = .ok (.iload_n 2, 1) := by decide +kernel
theorem dX9_state_99 : decode cX9_state 99 = .ok (.iload_n 3, 1) := by decide +kernel
theorem dX9_state_100 : decode cX9_state 100 = .ok (.invokevirtual 302, 3) := by decide +kernel
theorem dX9_state_103 : decode cX9_state 103 = .ok (.ireturn, 1) := by decide +kernel
theorem dX9_state_104 : decode cX9_state 104 = .ok (.aload 5, 2) := by decide +kernel
theorem dX9_state_106 : decode cX9_state 106 = .ok (.aload_n 0, 1) := by decide +kernel
theorem dX9_state_107 : decode cX9_state 107 = .ok (.getfield 58, 3) := by decide +kernel
theorem dX9_state_110 : decode cX9_state 110 = .ok (.iload_n 2, 1) := by decide +kernel
theorem dX9_state_111 : decode cX9_state 111 = .ok (.iload_n 3, 1) := by decide +kernel
theorem dX9_state_112 : decode cX9_state 112 = .ok (.invokevirtual 314, 3) := by decide +kernel
theorem dX9_state_115 : decode cX9_state 115 = .ok (.ireturn, 1) := by decide +kernel
theorem dX9_state_116 : decode cX9_state 116 = .ok (.aload 5, 2) := by decide +kernel
theorem dX9_state_118 : decode cX9_state 118 = .ok (.aload_n 0, 1) := by decide +kernel
theorem dX9_state_119 : decode cX9_state 119 = .ok (.getfield 58, 3) := by decide +kernel
theorem dX9_state_122 : decode cX9_state 122 = .ok (.iload_n 2, 1) := by decide +kernel
theorem dX9_state_123 : decode cX9_state 123 = .ok (.iload_n 3, 1) := by decide +kernel
theorem dX9_state_124 : decode cX9_state 124 = .ok (.invokevirtual 317, 3) := by decide +kernel
theorem dX9_state_127 : decode cX9_state 127 = .ok (.ireturn, 1) := by decide +kernel
theorem dX9_state_128 : decode cX9_state 128 = .ok (.aload 5, 2) := by decide +kernel
theorem dX9_state_130 : decode cX9_state 130 = .ok (.aload_n 0, 1) := by decide +kernel
theorem dX9_state_131 : decode cX9_state 131 = .ok (.getfield 58, 3) := by decide +kernel
theorem dX9_state_134 : decode cX9_state 134 = .ok (.iload_n 2, 1) := by decide +kernel
theorem dX9_state_135 : decode cX9_state 135 = .ok (.iload_n 3, 1) := by decide +kernel
theorem dX9_state_136 : decode cX9_state 136 = .ok (.invokevirtual 320, 3) := by decide +kernel
theorem dX9_state_139 : decode cX9_state 139 = .ok (.ireturn, 1) := by decide +kernel
theorem dX9_state_140 : decode cX9_state 140 = .ok (.iconst (-1), 1) := by decide +kernel
theorem dX9_state_141 : decode cX9_state 141 = .ok (.ireturn, 1) := by decide +kernel
theorem dX9_plan_0 : decode cX9_plan 0 = .ok (.aload_n 0, 1) := by decide +kernel
theorem dX9_plan_1 : decode cX9_plan 1 = .ok (.iload_n 1, 1) := by decide +kernel
theorem dX9_plan_2 : decode cX9_plan 2 = .ok (.invokevirtual 144, 3) := by decide +kernel
theorem dX9_plan_5 : decode cX9_plan 5 = .ok (.astore_n 3, 1) := by decide +kernel
theorem dX9_plan_6 : decode cX9_plan 6 = .ok (.aload_n 3, 1) := by decide +kernel
theorem dX9_plan_7 : decode cX9_plan 7 = .ok (.ifnull 13, 3) := by decide +kernel
theorem dX9_plan_10 : decode cX9_plan 10 = .ok (.iload_n 2, 1) := by decide +kernel
theorem dX9_plan_11 : decode cX9_plan 11 = .ok (.iconst 1, 1) := by decide +kernel
theorem dX9_plan_12 : decode cX9_plan 12 = .ok (.bipush 99, 2) := by decide +kernel
theorem dX9_plan_14 : decode cX9_plan 14 = .ok (.invokestatic 128, 3) := by decide +kernel
theorem dX9_plan_17 : decode cX9_plan 17 = .ok (.ifCond .ne 5, 3) := by decide +kernel
theorem dX9_plan_20 : decode cX9_plan 20 = .ok (.iconst (-1), 1) := by decide +kernel
theorem dX9_plan_21 : decode cX9_plan 21 = .ok (.ireturn, 1) := by decide +kernel
theorem dX9_plan_22 : decode cX9_plan 22 = .ok (.aload_n 0, 1) := by decide +kernel
theorem dX9_plan_23 : decode cX9_plan 23 = .ok (.getfield 72, 3) := by decide +kernel
theorem dX9_plan_26 : decode cX9_plan 26 = .ok (.iload_n 2, 1) := by decide +kernel
theorem dX9_plan_27 : decode cX9_plan 27 = .ok (.aload_n 3, 1) := by decide +kernel
theorem dX9_plan_28 : decode cX9_plan 28 = .ok (.aload_n 0, 1) := by decide +kernel
theorem dX9_plan_29 : decode cX9_plan 29 = .ok (.aload_n 0, 1) := by decide +kernel
theorem dX9_plan_30 : decode cX9_plan 30 = .ok (.getfield 94, 3) := by decide +kernel
theorem dX9_plan_33 : decode cX9_plan 33 = .ok (.invokevirtual 115, 3) := by decide +kernel
theorem dX9_plan_36 : decode cX9_plan 36 = .ok (.invokevirtual 264, 3) := by decide +kernel
theorem dX9_plan_39 : decode cX9_plan 39 = .ok (.invokevirtual 323, 3) := by decide +kernel
theorem dX9_plan_42 : decode cX9_plan 42 = .ok (.iconst 0, 1) := by decide +kernel
theorem dX9_plan_43 : decode cX9_plan 43 = .ok (.istore 4, 2) := by decide +kernel
theorem dX9_plan_45 : decode cX9_plan 45 = .ok (.iload 4, 2) := by decide +kernel
theorem dX9_plan_47 : decode cX9_plan 47 = .ok (.aload_n 0, 1) := by decide +kernel
theorem dX9_plan_48 : decode cX9_plan 48 = .ok (.getfield 181, 3) := by decide +kernel
theorem dX9_plan_51 : decode cX9_plan 51 = .ok (.if_icmp .ge 82, 3) := by decide +kernel
theorem dX9_plan_54 : decode cX9_plan 54 = .ok (.aload_n 0, 1) := by decide +kernel
theorem dX9_plan_55 : decode cX9_plan 55 = .ok (.getfield 48, 3) := by decide +kernel
theorem dX9_plan_58 : decode cX9_plan 58 = .ok (.iload 4, 2) := by decide +kernel
theorem dX9_plan_60 : decode cX9_plan 60 = .ok (.aaload, 1) := by decide +kernel
theorem dX9_plan_61 : decode cX9_plan 61 = .ok (.astore 5, 2) := by decide +kernel
theorem dX9_plan_63 : decode cX9_plan 63 = .ok (.aload 5, 2) := by decide +kernel
theorem dX9_plan_65 : decode cX9_plan 65 = .ok (.getfield 212, 3) := by decide +kernel
theorem dX9_plan_68 : decode cX9_plan 68 = .ok (.aload_n 3, 1) := by decide +kernel
theorem dX9_plan_69 : decode cX9_plan 69 = .ok (.if_acmp .ne 58, 3) := by decide +kernel
theorem dX9_plan_72 : decode cX9_plan 72 = .ok (.aload 5, 2) := by decide +kernel
theorem dX9_plan_74 : decode cX9_plan 74 = .ok (.aload_n 0, 1) := by decide +kernel
theorem dX9_plan_75 : decode cX9_plan 75 = .ok (.getfield 58, 3) := by decide +kernel
theorem dX9_plan_78 : decode cX9_plan 78 = .ok (.aload_n 0, 1) := by decide +kernel
theorem dX9_plan_79 : decode cX9_plan 79 = .ok (.getfield 94, 3) := by decide +kernel
theorem dX9_plan_82 : decode cX9_plan 82 = .ok (.invokevirtual 274, 3) := by decide +kernel
theorem dX9_plan_85 : decode cX9_plan 85 = .ok (.ifCond .eq 42, 3) := by decide +kernel
theorem dX9_plan_88 : decode cX9_plan 88 = .ok (.aload_n 0, 1) := by decide +kernel
theorem dX9_plan_89 : decode cX9_plan 89 = .ok (.getfield 72, 3) := by decide +kernel
theorem dX9_plan_92 : decode cX9_plan 92 = .ok (.getfield 326, 3) := by decide +kernel
theorem dX9_plan_95 : decode cX9_plan 95 = .ok (.iconst 4, 1) := by decide +kernel
theorem dX9_plan_96 : decode cX9_plan 96 = .ok (.if_icmp .lt 5, 3) := by decide +kernel
theorem dX9_plan_99 : decode cX9_plan 99 = .ok (.iconst (-1), 1) := by decide +kernel
theorem dX9_plan_100 : decode cX9_plan 100 = .ok (.ireturn, 1) := by decide +kernel
theorem dX9_plan_101 : decode cX9_plan 101 = .ok (.aload_n 0, 1) := by decide +kernel
theorem dX9_plan_102 : decode cX9_plan 102 = .ok (.getfield 72, 3) := by decide +kernel
theorem dX9_plan_105 : decode cX9_plan 105 = .ok (.aload 5, 2) := by decide +kernel
theorem dX9_plan_107 : decode cX9_plan 107 = .ok (.aload 5, 2) := by decide +kernel
theorem dX9_plan_109 : decode cX9_plan 109 = .ok (.aload_n 0, 1) := by decide +kernel
theorem dX9_plan_110 : decode cX9_plan 110 = .ok (.getfield 58, 3) := by decide +kernel
theorem dX9_plan_113 : decode cX9_plan 113 = .ok (.aload_n 0, 1) := by decide +kernel
theorem dX9_plan_114 : decode cX9_plan 114 = .ok (.getfield 94, 3) := by decide +kernel
theorem dX9_plan_117 : decode cX9_plan 117 = .ok (.aload_n 0, 1) := by decide +kernel
theorem dX9_plan_118 : decode cX9_plan 118 = .ok (.getfield 94, 3) := by decide +kernel
theorem dX9_plan_121 : decode cX9_plan 121 = .ok (.invokevirtual 302, 3) := by decide +kernel
theorem dX9_plan_124 : decode cX9_plan 124 = .ok (.invokevirtual 329, 3) := by decide +kernel
theorem dX9_plan_127 : decode cX9_plan 127 = .ok (.iinc 4 1, 3) := by decide +kernel
theorem dX9_plan_130 : decode cX9_plan 130 = .ok (.goto (-85), 3) := by decide +kernel
theorem dX9_plan_133 : decode cX9_plan 133 = .ok (.aload_n 0, 1) := by decide +kernel
theorem dX9_plan_134 : decode cX9_plan 134 = .ok (.getfield 72, 3) := by decide +kernel
theorem dX9_plan_137 : decode cX9_plan 137 = .ok (.invokevirtual 333, 3) := by decide +kernel
theorem dX9_plan_140 : decode cX9_plan 140 = .ok (.ireturn, 1) := by decide +kernel
theorem dX9_planned_0 : decode cX9_planned 0 = .ok (.iload_n 1, 1) := by decide +kernel
theorem dX9_planned_1 : decode cX9_planned 1 = .ok (.ifCond .lt 14, 3) := by decide +kernel
theorem dX9_planned_4 : decode cX9_planned 4 = .ok (.iload_n 1, 1) := by decide +kernel
theorem dX9_planned_5 : decode cX9_planned 5 = .ok (.aload_n 0, 1) := by decide +kernel
theorem dX9_planned_6 : decode cX9_planned 6 = .ok (.getfield 72, 3) := by decide +kernel
theorem dX9_planned_9 : decode cX9_planned 9 = .ok (.getfield 337, 3) := by decide +kernel
theorem dX9_planned_12 : decode cX9_planned 12 = .ok (.if_icmp .lt 5, 3) := by decide +kernel
theorem dX9_planned_15 : decode cX9_planned 15 = .ok (.iconst (-1), 1) := by decide +kernel
theorem dX9_planned_16 : decode cX9_planned 16 = .ok (.ireturn, 1) := by decide +kernel
theorem dX9_planned_17 : decode cX9_planned 17 = .ok (.iload_n 2, 1) := by decide +kernel
theorem dX9_planned_18 : decode cX9_planned 18 = .ok (.tableswitch 56 0 2 #[26, 36, 46], 26) := by decide +kernel
theorem dX9_planned_44 : decode cX9_planned 44 = .ok (.aload_n 0, 1) := by decide +kernel
theorem dX9_planned_45 : decode cX9_planned 45 = .ok (.getfield 72, 3) := by decide +kernel
theorem dX9_planned_48 : decode cX9_planned 48 = .ok (.getfield 339, 3) := by decide +kernel
theorem dX9_planned_51 : decode cX9_planned 51 = .ok (.iload_n 1, 1) := by decide +kernel
theorem dX9_planned_52 : decode cX9_planned 52 = .ok (.iaload, 1) := by decide +kernel
theorem dX9_planned_53 : decode cX9_planned 53 = .ok (.ireturn, 1) := by decide +kernel
theorem dX9_planned_54 : decode cX9_planned 54 = .ok (.aload_n 0, 1) := by decide +kernel
theorem dX9_planned_55 : decode cX9_planned 55 = .ok (.getfield 72, 3) := by decide +kernel
theorem dX9_planned_58 : decode cX9_planned 58 = .ok (.getfield 341, 3) := by decide +kernel
theorem dX9_planned_61 : decode cX9_planned 61 = .ok (.iload_n 1, 1) := by decide +kernel
theorem dX9_planned_62 : decode cX9_planned 62 = .ok (.iaload, 1) := by decide +kernel
theorem dX9_planned_63 : decode cX9_planned 63 = .ok (.ireturn, 1) := by decide +kernel
theorem dX9_planned_64 : decode cX9_planned 64 = .ok (.aload_n 0, 1) := by decide +kernel
theorem dX9_planned_65 : decode cX9_planned 65 = .ok (.getfield 72, 3) := by decide +kernel
theorem dX9_planned_68 : decode cX9_planned 68 = .ok (.getfield 343, 3) := by decide +kernel
theorem dX9_planned_71 : decode cX9_planned 71 = .ok (.iload_n 1, 1) := by decide +kernel
theorem dX9_planned_72 : decode cX9_planned 72 = .ok (.iaload, 1) := by decide +kernel
theorem dX9_planned_73 : decode cX9_planned 73 = .ok (.ireturn, 1) := by decide +kernel
theorem dX9_planned_74 : decode cX9_planned 74 = .ok (.iconst (-1), 1) := by decide +kernel
theorem dX9_planned_75 : decode cX9_planned 75 = .ok (.ireturn, 1) := by decide +kernel
theorem dX9_net_0 : decode cX9_net 0 = .ok (.aload_n 0, 1) := by decide +kernel
theorem dX9_net_1 : decode cX9_net 1 = .ok (.getfield 79, 3) := by decide +kernel
theorem dX9_net_4 : decode cX9_net 4 = .ok (.aload_n 0, 1) := by decide +kernel
theorem dX9_net_5 : decode cX9_net 5 = .ok (.getfield 125, 3) := by decide +kernel
theorem dX9_net_8 : decode cX9_net 8 = .ok (.invokevirtual 346, 3) := by decide +kernel
theorem dX9_net_11 : decode cX9_net 11 = .ok (.iconst 0, 1) := by decide +kernel
theorem dX9_net_12 : decode cX9_net 12 = .ok (.istore_n 1, 1) := by decide +kernel
theorem dX9_net_13 : decode cX9_net 13 = .ok (.iload_n 1, 1) := by decide +kernel
theorem dX9_net_14 : decode cX9_net 14 = .ok (.aload_n 0, 1) := by decide +kernel
theorem dX9_net_15 : decode cX9_net 15 = .ok (.getfield 181, 3) := by decide +kernel
theorem dX9_net_18 : decode cX9_net 18 = .ok (.if_icmp .ge 65, 3) := by decide +kernel
theorem dX9_net_21 : decode cX9_net 21 = .ok (.aload_n 0, 1) := by decide +kernel
theorem dX9_net_22 : decode cX9_net 22 = .ok (.getfield 48, 3) := by decide +kernel
theorem dX9_net_25 : decode cX9_net 25 = .ok (.iload_n 1, 1) := by decide +kernel
theorem dX9_net_26 : decode cX9_net 26 = .ok (.aaload, 1) := by decide +kernel
theorem dX9_net_27 : decode cX9_net 27 = .ok (.astore_n 2, 1) := by decide +kernel
theorem dX9_net_28 : decode cX9_net 28 = .ok (.aload_n 0, 1) := by decide +kernel
theorem dX9_net_29 : decode cX9_net 29 = .ok (.getfield 66, 3) := by decide +kernel
theorem dX9_net_32 : decode cX9_net 32 = .ok (.iload_n 1, 1) := by decide +kernel
theorem dX9_net_33 : decode cX9_net 33 = .ok (.aload_n 2, 1) := by decide +kernel
theorem dX9_net_34 : decode cX9_net 34 = .ok (.aload_n 0, 1) := by decide +kernel
theorem dX9_net_35 : decode cX9_net 35 = .ok (.getfield 58, 3) := by decide +kernel
theorem dX9_net_38 : decode cX9_net 38 = .ok (.aload_n 0, 1) := by decide +kernel
theorem dX9_net_39 : decode cX9_net 39 = .ok (.getfield 94, 3) := by decide +kernel
theorem dX9_net_42 : decode cX9_net 42 = .ok (.aload_n 0, 1) := by decide +kernel
theorem dX9_net_43 : decode cX9_net 43 = .ok (.getfield 94, 3) := by decide +kernel
theorem dX9_net_46 : decode cX9_net 46 = .ok (.invokevirtual 302, 3) := by decide +kernel
theorem dX9_net_49 : decode cX9_net 49 = .ok (.iastore, 1) := by decide +kernel
theorem dX9_net_50 : decode cX9_net 50 = .ok (.aload_n 0, 1) := by decide +kernel
theorem dX9_net_51 : decode cX9_net 51 = .ok (.getfield 79, 3) := by decide +kernel
theorem dX9_net_54 : decode cX9_net 54 = .ok (.aload_n 2, 1) := by decide +kernel
theorem dX9_net_55 : decode cX9_net 55 = .ok (.getfield 212, 3) := by decide +kernel
theorem dX9_net_58 : decode cX9_net 58 = .ok (.getfield 143, 3) := by decide +kernel
theorem dX9_net_61 : decode cX9_net 61 = .ok (.aload_n 2, 1) := by decide +kernel
theorem dX9_net_62 : decode cX9_net 62 = .ok (.getfield 223, 3) := by decide +kernel
theorem dX9_net_65 : decode cX9_net 65 = .ok (.getfield 143, 3) := by decide +kernel
theorem dX9_net_68 : decode cX9_net 68 = .ok (.aload_n 0, 1) := by decide +kernel
theorem dX9_net_69 : decode cX9_net 69 = .ok (.getfield 66, 3) := by decide +kernel
theorem dX9_net_72 : decode cX9_net 72 = .ok (.iload_n 1, 1) := by decide +kernel
theorem dX9_net_73 : decode cX9_net 73 = .ok (.iaload, 1) := by decide +kernel
theorem dX9_net_74 : decode cX9_net 74 = .ok (.invokevirtual 348, 3) := by decide +kernel
theorem dX9_net_77 : decode cX9_net 77 = .ok (.iinc 1 1, 3) := by decide +kernel
theorem dX9_net_80 : decode cX9_net 80 = .ok (.goto (-67), 3) := by decide +kernel
theorem dX9_net_83 : decode cX9_net 83 = .ok (.iconst 0, 1) := by decide +kernel
theorem dX9_net_84 : decode cX9_net 84 = .ok (.istore_n 1, 1) := by decide +kernel
theorem dX9_net_85 : decode cX9_net 85 = .ok (.iconst 0, 1) := by decide +kernel
theorem dX9_net_86 : decode cX9_net 86 = .ok (.istore_n 2, 1) := by decide +kernel
theorem dX9_net_87 : decode cX9_net 87 = .ok (.iload_n 2, 1) := by decide +kernel
theorem dX9_net_88 : decode cX9_net 88 = .ok (.bipush 100, 2) := by decide +kernel
theorem dX9_net_90 : decode cX9_net 90 = .ok (.if_icmp .ge 44, 3) := by decide +kernel
theorem dX9_net_93 : decode cX9_net 93 = .ok (.aload_n 0, 1) := by decide +kernel
theorem dX9_net_94 : decode cX9_net 94 = .ok (.getfield 79, 3) := by decide +kernel
theorem dX9_net_97 : decode cX9_net 97 = .ok (.invokevirtual 351, 3) := by decide +kernel
theorem dX9_net_100 : decode cX9_net 100 = .ok (.ifCond .eq 34, 3) := by decide +kernel
theorem dX9_net_103 : decode cX9_net 103 = .ok (.aload_n 0, 1) := by decide +kernel
theorem dX9_net_104 : decode cX9_net 104 = .ok (.invokevirtual 355, 3) := by decide +kernel
theorem dX9_net_107 : decode cX9_net 107 = .ok (.sipush 600, 3) := by decide +kernel
theorem dX9_net_110 : decode cX9_net 110 = .ok (.aload_n 0, 1) := by decide +kernel
theorem dX9_net_111 : decode cX9_net 111 = .ok (.getfield 58, 3) := by decide +kernel
theorem dX9_net_114 : decode cX9_net 114 = .ok (.getfield 278, 3) := by decide +kernel
theorem dX9_net_117 : decode cX9_net 117 = .ok (.isub, 1) := by decide +kernel
theorem dX9_net_118 : decode cX9_net 118 = .ok (.if_icmp .gt 16, 3) := by decide +kernel
theorem dX9_net_121 : decode cX9_net 121 = .ok (.iload_n 1, 1) := by decide +kernel
theorem dX9_net_122 : decode cX9_net 122 = .ok (.aload_n 0, 1) := by decide +kernel
theorem dX9_net_123 : decode cX9_net 123 = .ok (.invokevirtual 358, 3) := by decide +kernel
theorem dX9_net_126 : decode cX9_net 126 = .ok (.iadd, 1) := by decide +kernel
theorem dX9_net_127 : decode cX9_net 127 = .ok (.istore_n 1, 1) := by decide +kernel
theorem dX9_net_128 : decode cX9_net 128 = .ok (.iinc 2 1, 3) := by decide +kernel
theorem dX9_net_131 : decode cX9_net 131 = .ok (.goto (-44), 3) := by decide +kernel
theorem dX9_net_134 : decode cX9_net 134 = .ok (.iload_n 1, 1) := by decide +kernel
theorem dX9_net_135 : decode cX9_net 135 = .ok (.ireturn, 1) := by decide +kernel
theorem dX9_ringNeeds_0 : decode cX9_ringNeeds 0 = .ok (.iconst 0, 1) := by decide +kernel
theorem dX9_ringNeeds_1 : decode cX9_ringNeeds 1 = .ok (.istore_n 1, 1) := by decide +kernel
theorem dX9_ringNeeds_2 : decode cX9_ringNeeds 2 = .ok (.iconst 0, 1) := by decide +kernel
theorem dX9_ringNeeds_3 : decode cX9_ringNeeds 3 = .ok (.istore_n 2, 1) := by decide +kernel
theorem dX9_ringNeeds_4 : decode cX9_ringNeeds 4 = .ok (.iload_n 2, 1) := by decide +kernel
theorem dX9_ringNeeds_5 : decode cX9_ringNeeds 5 = .ok (.aload_n 0, 1) := by decide +kernel
theorem dX9_ringNeeds_6 : decode cX9_ringNeeds 6 = .ok (.getfield 79, 3) := by decide +kernel
theorem dX9_ringNeeds_9 : decode cX9_ringNeeds 9 = .ok (.getfield 361, 3) := by decide +kernel
theorem dX9_ringNeeds_12 : decode cX9_ringNeeds 12 = .ok (.if_icmp .ge 84, 3) := by decide +kernel
theorem dX9_ringNeeds_15 : decode cX9_ringNeeds 15 = .ok (.aload_n 0, 1) := by decide +kernel
theorem dX9_ringNeeds_16 : decode cX9_ringNeeds 16 = .ok (.getfield 79, 3) := by decide +kernel
theorem dX9_ringNeeds_19 : decode cX9_ringNeeds 19 = .ok (.getfield 364, 3) := by decide +kernel
theorem dX9_ringNeeds_22 : decode cX9_ringNeeds 22 = .ok (.istore_n 3, 1) := by decide +kernel
theorem dX9_ringNeeds_23 : decode cX9_ringNeeds 23 = .ok (.iconst 0, 1) := by decide +kernel
theorem dX9_ringNeeds_24 : decode cX9_ringNeeds 24 = .ok (.istore 4, 2) := by decide +kernel
theorem dX9_ringNeeds_26 : decode cX9_ringNeeds 26 = .ok (.iload 4, 2) := by decide +kernel
theorem dX9_ringNeeds_28 : decode cX9_ringNeeds 28 = .ok (.aload_n 0, 1) := by decide +kernel
theorem dX9_ringNeeds_29 : decode cX9_ringNeeds 29 = .ok (.getfield 181, 3) := by decide +kernel
theorem dX9_ringNeeds_32 : decode cX9_ringNeeds 32 = .ok (.if_icmp .ge 58, 3) := by decide +kernel
theorem dX9_ringNeeds_35 : decode cX9_ringNeeds 35 = .ok (.iload_n 3, 1) := by decide +kernel
theorem dX9_ringNeeds_36 : decode cX9_ringNeeds 36 = .ok (.ifCond .le 54, 3) := by decide +kernel
theorem dX9_ringNeeds_39 : decode cX9_ringNeeds 39 = .ok (.aload_n 0, 1) := by decide +kernel
theorem dX9_ringNeeds_40 : decode cX9_ringNeeds 40 = .ok (.getfield 66, 3) := by decide +kernel
theorem dX9_ringNeeds_43 : decode cX9_ringNeeds 43 = .ok (.iload 4, 2) := by decide +kernel
theorem dX9_ringNeeds_45 : decode cX9_ringNeeds 45 = .ok (.iaload, 1) := by decide +kernel
theorem dX9_ringNeeds_46 : decode cX9_ringNeeds 46 = .ok (.ifCond .le 38, 3) := by decide +kernel
theorem dX9_ringNeeds_49 : decode cX9_ringNeeds 49 = .ok (.aload_n 0, 1) := by decide +kernel
theorem dX9_ringNeeds_50 : decode cX9_ringNeeds 50 = .ok (.getfield 79, 3) := by decide +kernel
theorem dX9_ringNeeds_53 : decode cX9_ringNeeds 53 = .ok (.iload_n 2, 1) := by decide +kernel
theorem dX9_ringNeeds_54 : decode cX9_ringNeeds 54 = .ok (.aload_n 0, 1) := by decide +kernel
theorem dX9_ringNeeds_55 : decode cX9_ringNeeds 55 = .ok (.getfield 48, 3) := by decide +kernel
theorem dX9_ringNeeds_58 : decode cX9_ringNeeds 58 = .ok (.iload 4, 2) := by decide +kernel
theorem dX9_ringNeeds_60 : decode cX9_ringNeeds 60 = .ok (.aaload, 1) := by decide +kernel
theorem dX9_ringNeeds_61 : decode cX9_ringNeeds 61 = .ok (.invokevirtual 367, 3) := by decide +kernel
theorem dX9_ringNeeds_64 : decode cX9_ringNeeds 64 = .ok (.ifCond .eq 20, 3) := by decide +kernel
theorem dX9_ringNeeds_67 : decode cX9_ringNeeds 67 = .ok (.iload_n 3, 1) := by decide +kernel
theorem dX9_ringNeeds_68 : decode cX9_ringNeeds 68 = .ok (.iload_n 3, 1) := by decide +kernel
theorem dX9_ringNeeds_69 : decode cX9_ringNeeds 69 = .ok (.aload_n 0, 1) := by decide +kernel
theorem dX9_ringNeeds_70 : decode cX9_ringNeeds 70 = .ok (.getfield 66, 3) := by decide +kernel
theorem dX9_ringNeeds_73 : decode cX9_ringNeeds 73 = .ok (.iload 4, 2) := by decide +kernel
theorem dX9_ringNeeds_75 : decode cX9_ringNeeds 75 = .ok (.iaload, 1) := by decide +kernel
theorem dX9_ringNeeds_76 : decode cX9_ringNeeds 76 = .ok (.invokestatic 309, 3) := by decide +kernel
theorem dX9_ringNeeds_79 : decode cX9_ringNeeds 79 = .ok (.isub, 1) := by decide +kernel
theorem dX9_ringNeeds_80 : decode cX9_ringNeeds 80 = .ok (.istore_n 3, 1) := by decide +kernel
theorem dX9_ringNeeds_81 : decode cX9_ringNeeds 81 = .ok (.iinc 1 1, 3) := by decide +kernel
theorem dX9_ringNeeds_84 : decode cX9_ringNeeds 84 = .ok (.iinc 4 1, 3) := by decide +kernel
theorem dX9_ringNeeds_87 : decode cX9_ringNeeds 87 = .ok (.goto (-61), 3) := by decide +kernel
theorem dX9_ringNeeds_90 : decode cX9_ringNeeds 90 = .ok (.iinc 2 1, 3) := by decide +kernel
theorem dX9_ringNeeds_93 : decode cX9_ringNeeds 93 = .ok (.goto (-89), 3) := by decide +kernel
theorem dX9_ringNeeds_96 : decode cX9_ringNeeds 96 = .ok (.iload_n 1, 1) := by decide +kernel
theorem dX9_ringNeeds_97 : decode cX9_ringNeeds 97 = .ok (.ireturn, 1) := by decide +kernel
theorem dX9_takeOffRing_0 : decode cX9_takeOffRing 0 = .ok (.aload_n 0, 1) := by decide +kernel
theorem dX9_takeOffRing_1 : decode cX9_takeOffRing 1 = .ok (.getfield 79, 3) := by decide +kernel
theorem dX9_takeOffRing_4 : decode cX9_takeOffRing 4 = .ok (.getfield 364, 3) := by decide +kernel
theorem dX9_takeOffRing_7 : decode cX9_takeOffRing 7 = .ok (.istore_n 1, 1) := by decide +kernel
theorem dX9_takeOffRing_8 : decode cX9_takeOffRing 8 = .ok (.iconst 0, 1) := by decide +kernel
theorem dX9_takeOffRing_9 : decode cX9_takeOffRing 9 = .ok (.istore_n 2, 1) := by decide +kernel
theorem dX9_takeOffRing_10 : decode cX9_takeOffRing 10 = .ok (.iload_n 2, 1) := by decide +kernel
theorem dX9_takeOffRing_11 : decode cX9_takeOffRing 11 = .ok (.aload_n 0, 1) := by decide +kernel
theorem dX9_takeOffRing_12 : decode cX9_takeOffRing 12 = .ok (.getfield 79, 3) := by decide +kernel
theorem dX9_takeOffRing_15 : decode cX9_takeOffRing 15 = .ok (.getfield 361, 3) := by decide +kernel
theorem dX9_takeOffRing_18 : decode cX9_takeOffRing 18 = .ok (.if_icmp .ge 111, 3) := by decide +kernel
theorem dX9_takeOffRing_21 : decode cX9_takeOffRing 21 = .ok (.iload_n 1, 1) := by decide +kernel
theorem dX9_takeOffRing_22 : decode cX9_takeOffRing 22 = .ok (.istore_n 3, 1) := by decide +kernel
theorem dX9_takeOffRing_23 : decode cX9_takeOffRing 23 = .ok (.iconst 0, 1) := by decide +kernel
theorem dX9_takeOffRing_24 : decode cX9_takeOffRing 24 = .ok (.istore 4, 2) := by decide +kernel
theorem dX9_takeOffRing_26 : decode cX9_takeOffRing 26 = .ok (.iload 4, 2) := by decide +kernel
theorem dX9_takeOffRing_28 : decode cX9_takeOffRing 28 = .ok (.aload_n 0, 1) := by decide +kernel
theorem dX9_takeOffRing_29 : decode cX9_takeOffRing 29 = .ok (.getfield 181, 3) := by decide +kernel
theorem dX9_takeOffRing_32 : decode cX9_takeOffRing 32 = .ok (.if_icmp .ge 91, 3) := by decide +kernel
theorem dX9_takeOffRing_35 : decode cX9_takeOffRing 35 = .ok (.iload_n 3, 1) := by decide +kernel
theorem dX9_takeOffRing_36 : decode cX9_takeOffRing 36 = .ok (.ifCond .le 87, 3) := by decide +kernel
theorem dX9_takeOffRing_39 : decode cX9_takeOffRing 39 = .ok (.aload_n 0, 1) := by decide +kernel
theorem dX9_takeOffRing_40 : decode cX9_takeOffRing 40 = .ok (.getfield 66, 3) := by decide +kernel
theorem dX9_takeOffRing_43 : decode cX9_takeOffRing 43 = .ok (.iload 4, 2) := by decide +kernel
theorem dX9_takeOffRing_45 : decode cX9_takeOffRing 45 = .ok (.iaload, 1) := by decide +kernel
theorem dX9_takeOffRing_46 : decode cX9_takeOffRing 46 = .ok (.ifCond .le 71, 3) := by decide +kernel
theorem dX9_takeOffRing_49 : decode cX9_takeOffRing 49 = .ok (.aload_n 0, 1) := by decide +kernel
theorem dX9_takeOffRing_50 : decode cX9_takeOffRing 50 = .ok (.getfield 79, 3) := by decide +kernel
theorem dX9_takeOffRing_53 : decode cX9_takeOffRing 53 = .ok (.iload_n 2, 1) := by decide +kernel
theorem dX9_takeOffRing_54 : decode cX9_takeOffRing 54 = .ok (.aload_n 0, 1) := by decide +kernel
theorem dX9_takeOffRing_55 : decode cX9_takeOffRing 55 = .ok (.getfield 48, 3) := by decide +kernel
theorem dX9_takeOffRing_58 : decode cX9_takeOffRing 58 = .ok (.iload 4, 2) := by decide +kernel
theorem dX9_takeOffRing_60 : decode cX9_takeOffRing 60 = .ok (.aaload, 1) := by decide +kernel
theorem dX9_takeOffRing_61 : decode cX9_takeOffRing 61 = .ok (.invokevirtual 367, 3) := by decide +kernel
theorem dX9_takeOffRing_64 : decode cX9_takeOffRing 64 = .ok (.ifCond .eq 53, 3) := by decide +kernel
theorem dX9_takeOffRing_67 : decode cX9_takeOffRing 67 = .ok (.iload_n 3, 1) := by decide +kernel
theorem dX9_takeOffRing_68 : decode cX9_takeOffRing 68 = .ok (.aload_n 0, 1) := by decide +kernel
theorem dX9_takeOffRing_69 : decode cX9_takeOffRing 69 = .ok (.getfield 66, 3) := by decide +kernel
theorem dX9_takeOffRing_72 : decode cX9_takeOffRing 72 = .ok (.iload 4, 2) := by decide +kernel
theorem dX9_takeOffRing_74 : decode cX9_takeOffRing 74 = .ok (.iaload, 1) := by decide +kernel
theorem dX9_takeOffRing_75 : decode cX9_takeOffRing 75 = .ok (.invokestatic 309, 3) := by decide +kernel
theorem dX9_takeOffRing_78 : decode cX9_takeOffRing 78 = .ok (.istore 5, 2) := by decide +kernel
theorem dX9_takeOffRing_80 : decode cX9_takeOffRing 80 = .ok (.aload_n 0, 1) := by decide +kernel
theorem dX9_takeOffRing_81 : decode cX9_takeOffRing 81 = .ok (.getfield 58, 3) := by decide +kernel
theorem dX9_takeOffRing_84 : decode cX9_takeOffRing 84 = .ok (.iload 4, 2) := by decide +kernel
theorem dX9_takeOffRing_86 : decode cX9_takeOffRing 86 = .ok (.aload_n 0, 1) := by decide +kernel
theorem dX9_takeOffRing_87 : decode cX9_takeOffRing 87 = .ok (.getfield 94, 3) := by decide +kernel
theorem dX9_takeOffRing_90 : decode cX9_takeOffRing 90 = .ok (.aload_n 0, 1) := by decide +kernel
theorem dX9_takeOffRing_91 : decode cX9_takeOffRing 91 = .ok (.getfield 94, 3) := by decide +kernel
theorem dX9_takeOffRing_94 : decode cX9_takeOffRing 94 = .ok (.iload 5, 2) := by decide +kernel
theorem dX9_takeOffRing_96 : decode cX9_takeOffRing 96 = .ok (.invokevirtual 282, 3) := by decide +kernel
theorem dX9_takeOffRing_99 : decode cX9_takeOffRing 99 = .ok (.pop, 1) := by decide +kernel
theorem dX9_takeOffRing_100 : decode cX9_takeOffRing 100 = .ok (.aload_n 0, 1) := by decide +kernel
theorem dX9_takeOffRing_101 : decode cX9_takeOffRing 101 = .ok (.getfield 66, 3) := by decide +kernel
theorem dX9_takeOffRing_104 : decode cX9_takeOffRing 104 = .ok (.iload 4, 2) := by decide +kernel
theorem dX9_takeOffRing_106 : decode cX9_takeOffRing 106 = .ok (.dup2, 1) := by decide +kernel
theorem dX9_takeOffRing_107 : decode cX9_takeOffRing 107 = .ok (.iaload, 1) := by decide +kernel
theorem dX9_takeOffRing_108 : decode cX9_takeOffRing 108 = .ok (.iload 5, 2) := by decide +kernel
theorem dX9_takeOffRing_110 : decode cX9_takeOffRing 110 = .ok (.isub, 1) := by decide +kernel
theorem dX9_takeOffRing_111 : decode cX9_takeOffRing 111 = .ok (.iastore, 1) := by decide +kernel
theorem dX9_takeOffRing_112 : decode cX9_takeOffRing 112 = .ok (.iload_n 3, 1) := by decide +kernel
theorem dX9_takeOffRing_113 : decode cX9_takeOffRing 113 = .ok (.iload 5, 2) := by decide +kernel
theorem dX9_takeOffRing_115 : decode cX9_takeOffRing 115 = .ok (.isub, 1) := by decide +kernel
theorem dX9_takeOffRing_116 : decode cX9_takeOffRing 116 = .ok (.istore_n 3, 1) := by decide +kernel
theorem dX9_takeOffRing_117 : decode cX9_takeOffRing 117 = .ok (.iinc 4 1, 3) := by decide +kernel
theorem dX9_takeOffRing_120 : decode cX9_takeOffRing 120 = .ok (.goto (-94), 3) := by decide +kernel
theorem dX9_takeOffRing_123 : decode cX9_takeOffRing 123 = .ok (.iinc 2 1, 3) := by decide +kernel
theorem dX9_takeOffRing_126 : decode cX9_takeOffRing 126 = .ok (.goto (-116), 3) := by decide +kernel
theorem dX9_takeOffRing_129 : decode cX9_takeOffRing 129 = .ok (.iload_n 1, 1) := by decide +kernel
theorem dX9_takeOffRing_130 : decode cX9_takeOffRing 130 = .ok (.aload_n 0, 1) := by decide +kernel
theorem dX9_takeOffRing_131 : decode cX9_takeOffRing 131 = .ok (.getfield 79, 3) := by decide +kernel
theorem dX9_takeOffRing_134 : decode cX9_takeOffRing 134 = .ok (.getfield 361, 3) := by decide +kernel
theorem dX9_takeOffRing_137 : decode cX9_takeOffRing 137 = .ok (.imul, 1) := by decide +kernel
theorem dX9_takeOffRing_138 : decode cX9_takeOffRing 138 = .ok (.istore_n 2, 1) := by decide +kernel
theorem dX9_takeOffRing_139 : decode cX9_takeOffRing 139 = .ok (.aload_n 0, 1) := by decide +kernel
theorem dX9_takeOffRing_140 : decode cX9_takeOffRing 140 = .ok (.getfield 79, 3) := by decide +kernel
theorem dX9_takeOffRing_143 : decode cX9_takeOffRing 143 = .ok (.invokevirtual 371, 3) := by decide +kernel
theorem dX9_takeOffRing_146 : decode cX9_takeOffRing 146 = .ok (.iload_n 2, 1) := by decide +kernel
theorem dX9_takeOffRing_147 : decode cX9_takeOffRing 147 = .ok (.ireturn, 1) := by decide +kernel
theorem dX9_netted_0 : decode cX9_netted 0 = .ok (.iload_n 1, 1) := by decide +kernel
theorem dX9_netted_1 : decode cX9_netted 1 = .ok (.iconst (-1), 1) := by decide +kernel
theorem dX9_netted_2 : decode cX9_netted 2 = .ok (.if_icmp .ne 11, 3) := by decide +kernel
theorem dX9_netted_5 : decode cX9_netted 5 = .ok (.aload_n 0, 1) := by decide +kernel
theorem dX9_netted_6 : decode cX9_netted 6 = .ok (.getfield 79, 3) := by decide +kernel
theorem dX9_netted_9 : decode cX9_netted 9 = .ok (.getfield 374, 3) := by decide +kernel
theorem dX9_netted_12 : decode cX9_netted 12 = .ok (.ireturn, 1) := by decide +kernel
theorem dX9_netted_13 : decode cX9_netted 13 = .ok (.iload_n 1, 1) := by decide +kernel
theorem dX9_netted_14 : decode cX9_netted 14 = .ok (.ifCond .lt 14, 3) := by decide +kernel
theorem dX9_netted_17 : decode cX9_netted 17 = .ok (.iload_n 1, 1) := by decide +kernel
theorem dX9_netted_18 : decode cX9_netted 18 = .ok (.aload_n 0, 1) := by decide +kernel
theorem dX9_netted_19 : decode cX9_netted 19 = .ok (.getfield 79, 3) := by decide +kernel
theorem dX9_netted_22 : decode cX9_netted 22 = .ok (.getfield 374, 3) := by decide +kernel
theorem dX9_netted_25 : decode cX9_netted 25 = .ok (.if_icmp .lt 7, 3) := by decide +kernel
theorem dX9_netted_28 : decode cX9_netted 28 = .ok (.iconst (-1), 1) := by decide +kernel
theorem dX9_netted_29 : decode cX9_netted 29 = .ok (.goto 12, 3) := by decide +kernel
theorem dX9_netted_32 : decode cX9_netted 32 = .ok (.aload_n 0, 1) := by decide +kernel
theorem dX9_netted_33 : decode cX9_netted 33 = .ok (.getfield 79, 3) := by decide +kernel
theorem dX9_netted_36 : decode cX9_netted 36 = .ok (.getfield 375, 3) := by decide +kernel
theorem dX9_netted_39 : decode cX9_netted 39 = .ok (.iload_n 1, 1) := by decide +kernel
theorem dX9_netted_40 : decode cX9_netted 40 = .ok (.iaload, 1) := by decide +kernel
theorem dX9_netted_41 : decode cX9_netted 41 = .ok (.ireturn, 1) := by decide +kernel
theorem dX9_list_0 : decode cX9_list 0 = .ok (.aload_n 0, 1) := by decide +kernel
theorem dX9_list_1 : decode cX9_list 1 = .ok (.iload_n 1, 1) := by decide +kernel
theorem dX9_list_2 : decode cX9_list 2 = .ok (.invokevirtual 200, 3) := by decide +kernel
theorem dX9_list_5 : decode cX9_list 5 = .ok (.astore_n 2, 1) := by decide +kernel
theorem dX9_list_6 : decode cX9_list 6 = .ok (.aload_n 2, 1) := by decide +kernel
theorem dX9_list_7 : decode cX9_list 7 = .ok (.ifnull 34, 3) := by decide +kernel
theorem dX9_list_10 : decode cX9_list 10 = .ok (.aload_n 2, 1) := by decide +kernel
theorem dX9_list_11 : decode cX9_list 11 = .ok (.getfield 204, 3) := by decide +kernel
theorem dX9_list_14 : decode cX9_list 14 = .ok (.iconst (-1), 1) := by decide +kernel
theorem dX9_list_15 : decode cX9_list 15 = .ok (.if_icmp .ne 26, 3) := by decide +kernel
theorem dX9_list_18 : decode cX9_list 18 = .ok (.aload_n 0, 1) := by decide +kernel
theorem dX9_list_19 : decode cX9_list 19 = .ok (.getfield 86, 3) := by decide +kernel
theorem dX9_list_22 : decode cX9_list 22 = .ok (.aload_n 2, 1) := by decide +kernel
theorem dX9_list_23 : decode cX9_list 23 = .ok (.invokevirtual 378, 3) := by decide +kernel
theorem dX9_list_26 : decode cX9_list 26 = .ok (.ifCond .ne 15, 3) := by decide +kernel
theorem dX9_list_29 : decode cX9_list 29 = .ok (.aload_n 0, 1) := by decide +kernel
theorem dX9_list_30 : decode cX9_list 30 = .ok (.getfield 86, 3) := by decide +kernel
theorem dX9_list_33 : decode cX9_list 33 = .ok (.getfield 381, 3) := by decide +kernel
theorem dX9_list_36 : decode cX9_list 36 = .ok (.bipush 8, 2) := by decide +kernel
theorem dX9_list_38 : decode cX9_list 38 = .ok (.if_icmp .lt 5, 3) := by decide +kernel
theorem dX9_list_41 : decode cX9_list 41 = .ok (.iconst (-1), 1) := by decide +kernel
theorem dX9_list_42 : decode cX9_list 42 = .ok (.ireturn, 1) := by decide +kernel
theorem dX9_list_43 : decode cX9_list 43 = .ok (.aload_n 0, 1) := by decide +kernel
theorem dX9_list_44 : decode cX9_list 44 = .ok (.getfield 86, 3) := by decide +kernel
theorem dX9_list_47 : decode cX9_list 47 = .ok (.aload_n 2, 1) := by decide +kernel
theorem dX9_list_48 : decode cX9_list 48 = .ok (.invokevirtual 384, 3) := by decide +kernel
theorem dX9_list_51 : decode cX9_list 51 = .ok (.aload_n 0, 1) := by decide +kernel
theorem dX9_list_52 : decode cX9_list 52 = .ok (.getfield 86, 3) := by decide +kernel
theorem dX9_list_55 : decode cX9_list 55 = .ok (.getfield 381, 3) := by decide +kernel
theorem dX9_list_58 : decode cX9_list 58 = .ok (.ireturn, 1) := by decide +kernel
theorem dX9_walk_0 : decode cX9_walk 0 = .ok (.aload_n 0, 1) := by decide +kernel
theorem dX9_walk_1 : decode cX9_walk 1 = .ok (.getfield 86, 3) := by decide +kernel
theorem dX9_walk_4 : decode cX9_walk 4 = .ok (.invokevirtual 388, 3) := by decide +kernel
theorem dX9_walk_7 : decode cX9_walk 7 = .ok (.ireturn, 1) := by decide +kernel
theorem dX9_walked_0 : decode cX9_walked 0 = .ok (.iload_n 1, 1) := by decide +kernel
theorem dX9_walked_1 : decode cX9_walked 1 = .ok (.ifCond .lt 14, 3) := by decide +kernel
theorem dX9_walked_4 : decode cX9_walked 4 = .ok (.iload_n 1, 1) := by decide +kernel
theorem dX9_walked_5 : decode cX9_walked 5 = .ok (.aload_n 0, 1) := by decide +kernel
theorem dX9_walked_6 : decode cX9_walked 6 = .ok (.getfield 86, 3) := by decide +kernel
theorem dX9_walked_9 : decode cX9_walked 9 = .ok (.getfield 391, 3) := by decide +kernel
theorem dX9_walked_12 : decode cX9_walked 12 = .ok (.if_icmp .lt 7, 3) := by decide +kernel
theorem dX9_walked_15 : decode cX9_walked 15 = .ok (.iconst (-1), 1) := by decide +kernel
theorem dX9_walked_16 : decode cX9_walked 16 = .ok (.goto 12, 3) := by decide +kernel
theorem dX9_walked_19 : decode cX9_walked 19 = .ok (.aload_n 0, 1) := by decide +kernel
theorem dX9_walked_20 : decode cX9_walked 20 = .ok (.getfield 86, 3) := by decide +kernel
theorem dX9_walked_23 : decode cX9_walked 23 = .ok (.getfield 394, 3) := by decide +kernel
theorem dX9_walked_26 : decode cX9_walked 26 = .ok (.iload_n 1, 1) := by decide +kernel
theorem dX9_walked_27 : decode cX9_walked 27 = .ok (.iaload, 1) := by decide +kernel
theorem dX9_walked_28 : decode cX9_walked 28 = .ok (.ireturn, 1) := by decide +kernel
theorem dX9_habit_0 : decode cX9_habit 0 = .ok (.aload_n 0, 1) := by decide +kernel
theorem dX9_habit_1 : decode cX9_habit 1 = .ok (.iload_n 1, 1) := by decide +kernel
theorem dX9_habit_2 : decode cX9_habit 2 = .ok (.invokevirtual 144, 3) := by decide +kernel
theorem dX9_habit_5 : decode cX9_habit 5 = .ok (.astore_n 3, 1) := by decide +kernel
theorem dX9_habit_6 : decode cX9_habit 6 = .ok (.aload_n 3, 1) := by decide +kernel
theorem dX9_habit_7 : decode cX9_habit 7 = .ok (.ifnull 10, 3) := by decide +kernel
theorem dX9_habit_10 : decode cX9_habit 10 = .ok (.aload_n 3, 1) := by decide +kernel
theorem dX9_habit_11 : decode cX9_habit 11 = .ok (.getfield 155, 3) := by decide +kernel
theorem dX9_habit_14 : decode cX9_habit 14 = .ok (.ifCond .ne 5, 3) := by decide +kernel
theorem dX9_habit_17 : decode cX9_habit 17 = .ok (.iconst (-1), 1) := by decide +kernel
theorem dX9_habit_18 : decode cX9_habit 18 = .ok (.ireturn, 1) := by decide +kernel
theorem dX9_habit_19 : decode cX9_habit 19 = .ok (.iconst 0, 1) := by decide +kernel
theorem dX9_habit_20 : decode cX9_habit 20 = .ok (.istore 4, 2) := by decide +kernel
theorem dX9_habit_22 : decode cX9_habit 22 = .ok (.iconst 0, 1) := by decide +kernel
theorem dX9_habit_23 : decode cX9_habit 23 = .ok (.istore 5, 2) := by decide +kernel
theorem dX9_habit_25 : decode cX9_habit 25 = .ok (.aload_n 0, 1) := by decide +kernel
theorem dX9_habit_26 : decode cX9_habit 26 = .ok (.getfield 216, 3) := by decide +kernel
theorem dX9_habit_29 : decode cX9_habit 29 = .ok (.iconst 1, 1) := by decide +kernel
theorem dX9_habit_30 : decode cX9_habit 30 = .ok (.isub, 1) := by decide +kernel
theorem dX9_habit_31 : decode cX9_habit 31 = .ok (.istore 6, 2) := by decide +kernel
theorem dX9_habit_33 : decode cX9_habit 33 = .ok (.iload 6, 2) := by decide +kernel
theorem dX9_habit_35 : decode cX9_habit 35 = .ok (.ifCond .lt 71, 3) := by decide +kernel
theorem dX9_habit_38 : decode cX9_habit 38 = .ok (.iload 4, 2) := by decide +kernel
theorem dX9_habit_40 : decode cX9_habit 40 = .ok (.bipush 60, 2) := by decide +kernel
theorem dX9_habit_42 : decode cX9_habit 42 = .ok (.if_icmp .ge 64, 3) := by decide +kernel
theorem dX9_habit_45 : decode cX9_habit 45 = .ok (.aload_n 0, 1) := by decide +kernel
theorem dX9_habit_46 : decode cX9_habit 46 = .ok (.getfield 52, 3) := by decide +kernel
theorem dX9_habit_49 : decode cX9_habit 49 = .ok (.iload 6, 2) := by decide +kernel
theorem dX9_habit_51 : decode cX9_habit 51 = .ok (.aaload, 1) := by decide +kernel
theorem dX9_habit_52 : decode cX9_habit 52 = .ok (.getfield 233, 3) := by decide +kernel
theorem dX9_habit_55 : decode cX9_habit 55 = .ok (.iconst 4, 1) := by decide +kernel
theorem dX9_habit_56 : decode cX9_habit 56 = .ok (.if_icmp .lt 44, 3) := by decide +kernel
theorem dX9_habit_59 : decode cX9_habit 59 = .ok (.aload_n 0, 1) := by decide +kernel
theorem dX9_habit_60 : decode cX9_habit 60 = .ok (.getfield 52, 3) := by decide +kernel
theorem dX9_habit_63 : decode cX9_habit 63 = .ok (.iload 6, 2) := by decide +kernel
theorem dX9_habit_65 : decode cX9_habit 65 = .ok (.aaload, 1) := by decide +kernel
theorem dX9_habit_66 : decode cX9_habit 66 = .ok (.iload_n 1, 1) := by decide +kernel
theorem dX9_habit_67 : decode cX9_habit 67 = .ok (.invokevirtual 397, 3) := by decide +kernel
theorem dX9_habit_70 : decode cX9_habit 70 = .ok (.ifCond .eq 30, 3) := by decide +kernel
theorem dX9_habit_73 : decode cX9_habit 73 = .ok (.iinc 4 1, 3) := by decide +kernel
theorem dX9_habit_76 : decode cX9_habit 76 = .ok (.iload 5, 2) := by decide +kernel
theorem dX9_habit_78 : decode cX9_habit 78 = .ok (.aload_n 0, 1) := by decide +kernel
theorem dX9_habit_79 : decode cX9_habit 79 = .ok (.getfield 52, 3) := by decide +kernel
theorem dX9_habit_82 : decode cX9_habit 82 = .ok (.iload 6, 2) := by decide +kernel
theorem dX9_habit_84 : decode cX9_habit 84 = .ok (.aaload, 1) := by decide +kernel
theorem dX9_habit_85 : decode cX9_habit 85 = .ok (.getfield 233, 3) := by decide +kernel
theorem dX9_habit_88 : decode cX9_habit 88 = .ok (.iconst 5, 1) := by decide +kernel
theorem dX9_habit_89 : decode cX9_habit 89 = .ok (.if_icmp .ne 7, 3) := by decide +kernel
theorem dX9_habit_92 : decode cX9_habit 92 = .ok (.iconst 1, 1) := by decide +kernel
theorem dX9_habit_93 : decode cX9_habit 93 = .ok (.goto 4, 3) := by decide +kernel
theorem dX9_habit_96 : decode cX9_habit 96 = .ok (.iconst 0, 1) := by decide +kernel
theorem dX9_habit_97 : decode cX9_habit 97 = .ok (.iadd, 1) := by decide +kernel
theorem dX9_habit_98 : decode cX9_habit 98 = .ok (.istore 5, 2) := by decide +kernel
theorem dX9_habit_100 : decode cX9_habit 100 = .ok (.iinc 6 (-1), 3) := by decide +kernel
theorem dX9_habit_103 : decode cX9_habit 103 = .ok (.goto (-70), 3) := by decide +kernel
theorem dX9_habit_106 : decode cX9_habit 106 = .ok (.iload_n 2, 1) := by decide +kernel
theorem dX9_habit_107 : decode cX9_habit 107 = .ok (.tableswitch 64 0 2 #[25, 28, 31], 25) := by decide +kernel
theorem dX9_habit_132 : decode cX9_habit 132 = .ok (.iload 4, 2) := by decide +kernel
theorem dX9_habit_134 : decode cX9_habit 134 = .ok (.ireturn, 1) := by decide +kernel
theorem dX9_habit_135 : decode cX9_habit 135 = .ok (.iload 5, 2) := by decide +kernel
theorem dX9_habit_137 : decode cX9_habit 137 = .ok (.ireturn, 1) := by decide +kernel
theorem dX9_habit_138 : decode cX9_habit 138 = .ok (.iload 4, 2) := by decide +kernel
theorem dX9_habit_140 : decode cX9_habit 140 = .ok (.iload 5, 2) := by decide +kernel
theorem dX9_habit_142 : decode cX9_habit 142 = .ok (.invokestatic 400, 3) := by decide +kernel
theorem dX9_habit_145 : decode cX9_habit 145 = .ok (.ifCond .eq 7, 3) := by decide +kernel
theorem dX9_habit_148 : decode cX9_habit 148 = .ok (.iconst 1, 1) := by decide +kernel
theorem dX9_habit_149 : decode cX9_habit 149 = .ok (.goto 21, 3) := by decide +kernel
theorem dX9_habit_152 : decode cX9_habit 152 = .ok (.iload 4, 2) := by decide +kernel
theorem dX9_habit_154 : decode cX9_habit 154 = .ok (.iload 4, 2) := by decide +kernel
theorem dX9_habit_156 : decode cX9_habit 156 = .ok (.iload 5, 2) := by decide +kernel
theorem dX9_habit_158 : decode cX9_habit 158 = .ok (.isub, 1) := by decide +kernel
theorem dX9_habit_159 : decode cX9_habit 159 = .ok (.invokestatic 400, 3) := by decide +kernel
theorem dX9_habit_162 : decode cX9_habit 162 = .ok (.ifCond .eq 7, 3) := by decide +kernel
theorem dX9_habit_165 : decode cX9_habit 165 = .ok (.iconst 2, 1) := by decide +kernel
theorem dX9_habit_166 : decode cX9_habit 166 = .ok (.goto 4, 3) := by decide +kernel
theorem dX9_habit_169 : decode cX9_habit 169 = .ok (.iconst 0, 1) := by decide +kernel
theorem dX9_habit_170 : decode cX9_habit 170 = .ok (.ireturn, 1) := by decide +kernel
theorem dX9_habit_171 : decode cX9_habit 171 = .ok (.iconst (-1), 1) := by decide +kernel
theorem dX9_habit_172 : decode cX9_habit 172 = .ok (.ireturn, 1) := by decide +kernel
theorem dX9_isBeyondDoubt_0 : decode cX9_isBeyondDoubt 0 = .ok (.lconst 0, 1) := by decide +kernel
theorem dX9_isBeyondDoubt_1 : decode cX9_isBeyondDoubt 1 = .ok (.lstore_n 2, 1) := by decide +kernel
theorem dX9_isBeyondDoubt_2 : decode cX9_isBeyondDoubt 2 = .ok (.lconst 1, 1) := by decide +kernel
theorem dX9_isBeyondDoubt_3 : decode cX9_isBeyondDoubt 3 = .ok (.lstore 4, 2) := by decide +kernel
theorem dX9_isBeyondDoubt_5 : decode cX9_isBeyondDoubt 5 = .ok (.iconst 0, 1) := by decide +kernel
theorem dX9_isBeyondDoubt_6 : decode cX9_isBeyondDoubt 6 = .ok (.istore 6, 2) := by decide +kernel
theorem dX9_isBeyondDoubt_8 : decode cX9_isBeyondDoubt 8 = .ok (.iload 6, 2) := by decide +kernel
theorem dX9_isBeyondDoubt_10 : decode cX9_isBeyondDoubt 10 = .ok (.iload_n 0, 1) := by decide +kernel
theorem dX9_isBeyondDoubt_11 : decode cX9_isBeyondDoubt 11 = .ok (.if_icmp .gt 36, 3) := by decide +kernel
theorem dX9_isBeyondDoubt_14 : decode cX9_isBeyondDoubt 14 = .ok (.iload 6, 2) := by decide +kernel
theorem dX9_isBeyondDoubt_16 : decode cX9_isBeyondDoubt 16 = .ok (.iload_n 1, 1) := by decide +kernel
theorem dX9_isBeyondDoubt_17 : decode cX9_isBeyondDoubt 17 = .ok (.if_icmp .lt 8, 3) := by decide +kernel
theorem dX9_isBeyondDoubt_20 : decode cX9_isBeyondDoubt 20 = .ok (.lload_n 2, 1) := by decide +kernel
theorem dX9_isBeyondDoubt_21 : decode cX9_isBeyondDoubt 21 = .ok (.lload 4, 2) := by decide +kernel
theorem dX9_isBeyondDoubt_23 : decode cX9_isBeyondDoubt 23 = .ok (.ladd, 1) := by decide +kernel
theorem dX9_isBeyondDoubt_24 : decode cX9_isBeyondDoubt 24 = .ok (.lstore_n 2, 1) := by decide +kernel
theorem dX9_isBeyondDoubt_25 : decode cX9_isBeyondDoubt 25 = .ok (.lload 4, 2) := by decide +kernel
theorem dX9_isBeyondDoubt_27 : decode cX9_isBeyondDoubt 27 = .ok (.iload_n 0, 1) := by decide +kernel
theorem dX9_isBeyondDoubt_28 : decode cX9_isBeyondDoubt 28 = .ok (.iload 6, 2) := by decide +kernel
theorem dX9_isBeyondDoubt_30 : decode cX9_isBeyondDoubt 30 = .ok (.isub, 1) := by decide +kernel
theorem dX9_isBeyondDoubt_31 : decode cX9_isBeyondDoubt 31 = .ok (.i2l, 1) := by decide +kernel
theorem dX9_isBeyondDoubt_32 : decode cX9_isBeyondDoubt 32 = .ok (.lmul, 1) := by decide +kernel
theorem dX9_isBeyondDoubt_33 : decode cX9_isBeyondDoubt 33 = .ok (.iload 6, 2) := by decide +kernel
theorem dX9_isBeyondDoubt_35 : decode cX9_isBeyondDoubt 35 = .ok (.iconst 1, 1) := by decide +kernel
theorem dX9_isBeyondDoubt_36 : decode cX9_isBeyondDoubt 36 = .ok (.iadd, 1) := by decide +kernel
theorem dX9_isBeyondDoubt_37 : decode cX9_isBeyondDoubt 37 = .ok (.i2l, 1) := by decide +kernel
theorem dX9_isBeyondDoubt_38 : decode cX9_isBeyondDoubt 38 = .ok (.ldiv, 1) := by decide +kernel
theorem dX9_isBeyondDoubt_39 : decode cX9_isBeyondDoubt 39 = .ok (.lstore 4, 2) := by decide +kernel
theorem dX9_isBeyondDoubt_41 : decode cX9_isBeyondDoubt 41 = .ok (.iinc 6 1, 3) := by decide +kernel
theorem dX9_isBeyondDoubt_44 : decode cX9_isBeyondDoubt 44 = .ok (.goto (-36), 3) := by decide +kernel
theorem dX9_isBeyondDoubt_47 : decode cX9_isBeyondDoubt 47 = .ok (.lload_n 2, 1) := by decide +kernel
theorem dX9_isBeyondDoubt_48 : decode cX9_isBeyondDoubt 48 = .ok (.lconst 1, 1) := by decide +kernel
theorem dX9_isBeyondDoubt_49 : decode cX9_isBeyondDoubt 49 = .ok (.iload_n 0, 1) := by decide +kernel
theorem dX9_isBeyondDoubt_50 : decode cX9_isBeyondDoubt 50 = .ok (.lshl, 1) := by decide +kernel
theorem dX9_isBeyondDoubt_51 : decode cX9_isBeyondDoubt 51 = .ok (.ldc2_w 403, 3) := by decide +kernel
theorem dX9_isBeyondDoubt_54 : decode cX9_isBeyondDoubt 54 = .ok (.ldiv, 1) := by decide +kernel
theorem dX9_isBeyondDoubt_55 : decode cX9_isBeyondDoubt 55 = .ok (.lcmp, 1) := by decide +kernel
theorem dX9_isBeyondDoubt_56 : decode cX9_isBeyondDoubt 56 = .ok (.ifCond .gt 7, 3) := by decide +kernel
theorem dX9_isBeyondDoubt_59 : decode cX9_isBeyondDoubt 59 = .ok (.iconst 1, 1) := by decide +kernel
theorem dX9_isBeyondDoubt_60 : decode cX9_isBeyondDoubt 60 = .ok (.goto 4, 3) := by decide +kernel
theorem dX9_isBeyondDoubt_63 : decode cX9_isBeyondDoubt 63 = .ok (.iconst 0, 1) := by decide +kernel
theorem dX9_isBeyondDoubt_64 : decode cX9_isBeyondDoubt 64 = .ok (.ireturn, 1) := by decide +kernel
theorem dX9_other_0 : decode cX9_other 0 = .ok (.iload_n 1, 1) := by decide +kernel
theorem dX9_other_1 : decode cX9_other 1 = .ok (.iconst (-1), 1) := by decide +kernel
theorem dX9_other_2 : decode cX9_other 2 = .ok (.if_icmp .lt 22, 3) := by decide +kernel
theorem dX9_other_5 : decode cX9_other 5 = .ok (.iload_n 1, 1) := by decide +kernel
theorem dX9_other_6 : decode cX9_other 6 = .ok (.aload_n 0, 1) := by decide +kernel
theorem dX9_other_7 : decode cX9_other 7 = .ok (.getfield 105, 3) := by decide +kernel
theorem dX9_other_10 : decode cX9_other 10 = .ok (.if_icmp .ge 14, 3) := by decide +kernel
theorem dX9_other_13 : decode cX9_other 13 = .ok (.iload_n 2, 1) := by decide +kernel
theorem dX9_other_14 : decode cX9_other 14 = .ok (.iconst 1, 1) := by decide +kernel
theorem dX9_other_15 : decode cX9_other 15 = .ok (.if_icmp .lt 9, 3) := by decide +kernel
theorem dX9_other_18 : decode cX9_other 18 = .ok (.iload_n 2, 1) := by decide +kernel
theorem dX9_other_19 : decode cX9_other 19 = .ok (.bipush 6, 2) := by decide +kernel
theorem dX9_other_21 : decode cX9_other 21 = .ok (.if_icmp .le 5, 3) := by decide +kernel
theorem dX9_other_24 : decode cX9_other 24 = .ok (.iconst (-1), 1) := by decide +kernel
theorem dX9_other_25 : decode cX9_other 25 = .ok (.ireturn, 1) := by decide +kernel
theorem dX9_other_26 : decode cX9_other 26 = .ok (.iload_n 1, 1) := by decide +kernel
theorem dX9_other_27 : decode cX9_other 27 = .ok (.iconst (-1), 1) := by decide +kernel
theorem dX9_other_28 : decode cX9_other 28 = .ok (.if_icmp .ne 10, 3) := by decide +kernel
theorem dX9_other_31 : decode cX9_other 31 = .ok (.aload_n 0, 1) := by decide +kernel
theorem dX9_other_32 : decode cX9_other 32 = .ok (.getfield 25, 3) := by decide +kernel
theorem dX9_other_35 : decode cX9_other 35 = .ok (.goto 9, 3) := by decide +kernel
theorem dX9_other_38 : decode cX9_other 38 = .ok (.aload_n 0, 1) := by decide +kernel
theorem dX9_other_39 : decode cX9_other 39 = .ok (.getfield 29, 3) := by decide +kernel
theorem dX9_other_42 : decode cX9_other 42 = .ok (.iload_n 1, 1) := by decide +kernel
theorem dX9_other_43 : decode cX9_other 43 = .ok (.aaload, 1) := by decide +kernel
theorem dX9_other_44 : decode cX9_other 44 = .ok (.astore_n 3, 1) := by decide +kernel
theorem dX9_other_45 : decode cX9_other 45 = .ok (.iconst 0, 1) := by decide +kernel
theorem dX9_other_46 : decode cX9_other 46 = .ok (.istore 4, 2) := by decide +kernel
theorem dX9_other_48 : decode cX9_other 48 = .ok (.iconst 0, 1) := by decide +kernel
theorem dX9_other_49 : decode cX9_other 49 = .ok (.istore 5, 2) := by decide +kernel
theorem dX9_other_51 : decode cX9_other 51 = .ok (.iconst 0, 1) := by decide +kernel
theorem dX9_other_52 : decode cX9_other 52 = .ok (.istore 6, 2) := by decide +kernel
theorem dX9_other_54 : decode cX9_other 54 = .ok (.iload 6, 2) := by decide +kernel
theorem dX9_other_56 : decode cX9_other 56 = .ok (.aload_n 0, 1) := by decide +kernel
theorem dX9_other_57 : decode cX9_other 57 = .ok (.getfield 216, 3) := by decide +kernel
theorem dX9_other_60 : decode cX9_other 60 = .ok (.if_icmp .ge 66, 3) := by decide +kernel
theorem dX9_other_63 : decode cX9_other 63 = .ok (.aload_n 0, 1) := by decide +kernel
theorem dX9_other_64 : decode cX9_other 64 = .ok (.aload_n 0, 1) := by decide +kernel
theorem dX9_other_65 : decode cX9_other 65 = .ok (.getfield 52, 3) := by decide +kernel
theorem dX9_other_68 : decode cX9_other 68 = .ok (.iload 6, 2) := by decide +kernel
theorem dX9_other_70 : decode cX9_other 70 = .ok (.aaload, 1) := by decide +kernel
theorem dX9_other_71 : decode cX9_other 71 = .ok (.aload_n 3, 1) := by decide +kernel
theorem dX9_other_72 : decode cX9_other 72 = .ok (.invokevirtual 229, 3) := by decide +kernel
theorem dX9_other_75 : decode cX9_other 75 = .ok (.istore 7, 2) := by decide +kernel
theorem dX9_other_77 : decode cX9_other 77 = .ok (.iload 4, 2) := by decide +kernel
theorem dX9_other_79 : decode cX9_other 79 = .ok (.iload 7, 2) := by decide +kernel
theorem dX9_other_81 : decode cX9_other 81 = .ok (.iload_n 2, 1) := by decide +kernel
theorem dX9_other_82 : decode cX9_other 82 = .ok (.if_icmp .ne 7, 3) := by decide +kernel
theorem dX9_other_85 : decode cX9_other 85 = .ok (.iconst 1, 1) := by decide +kernel
theorem dX9_other_86 : decode cX9_other 86 = .ok (.goto 4, 3) := by decide +kernel
theorem dX9_other_89 : decode cX9_other 89 = .ok (.iconst 0, 1) := by decide +kernel
theorem dX9_other_90 : decode cX9_other 90 = .ok (.iadd, 1) := by decide +kernel
theorem dX9_other_91 : decode cX9_other 91 = .ok (.istore 4, 2) := by decide +kernel
theorem dX9_other_93 : decode cX9_other 93 = .ok (.iload 5, 2) := by decide +kernel
theorem dX9_other_95 : decode cX9_other 95 = .ok (.aload_n 0, 1) := by decide +kernel
theorem dX9_other_96 : decode cX9_other 96 = .ok (.getfield 52, 3) := by decide +kernel
theorem dX9_other_99 : decode cX9_other 99 = .ok (.iload 6, 2) := by decide +kernel
theorem dX9_other_101 : decode cX9_other 101 = .ok (.aaload, 1) := by decide +kernel
theorem dX9_other_102 : decode cX9_other 102 = .ok (.aload_n 3, 1) := by decide +kernel
theorem dX9_other_103 : decode cX9_other 103 = .ok (.iload 7, 2) := by decide +kernel
theorem dX9_other_105 : decode cX9_other 105 = .ok (.iconst 5, 1) := by decide +kernel
theorem dX9_other_106 : decode cX9_other 106 = .ok (.if_icmp .ne 7, 3) := by decide +kernel
theorem dX9_other_109 : decode cX9_other 109 = .ok (.iconst 1, 1) := by decide +kernel
theorem dX9_other_110 : decode cX9_other 110 = .ok (.goto 4, 3) := by decide +kernel
theorem dX9_other_113 : decode cX9_other 113 = .ok (.iconst 0, 1) := by decide +kernel
theorem dX9_other_114 : decode cX9_other 114 = .ok (.invokevirtual 256, 3) := by decide +kernel
theorem dX9_other_117 : decode cX9_other 117 = .ok (.iadd, 1) := by decide +kernel
theorem dX9_other_118 : decode cX9_other 118 = .ok (.istore 5, 2) := by decide +kernel
theorem dX9_other_120 : decode cX9_other 120 = .ok (.iinc 6 1, 3) := by decide +kernel
theorem dX9_other_123 : decode cX9_other 123 = .ok (.goto (-69), 3) := by decide +kernel
theorem dX9_other_126 : decode cX9_other 126 = .ok (.iload_n 2, 1) := by decide +kernel
theorem dX9_other_127 : decode cX9_other 127 = .ok (.iconst 5, 1) := by decide +kernel
theorem dX9_other_128 : decode cX9_other 128 = .ok (.if_icmp .le 8, 3) := by decide +kernel
theorem dX9_other_131 : decode cX9_other 131 = .ok (.iload 5, 2) := by decide +kernel
theorem dX9_other_133 : decode cX9_other 133 = .ok (.goto 5, 3) := by decide +kernel
theorem dX9_other_136 : decode cX9_other 136 = .ok (.iload 4, 2) := by decide +kernel
theorem dX9_other_138 : decode cX9_other 138 = .ok (.ireturn, 1) := by decide +kernel
theorem dX9_count_0 : decode cX9_count 0 = .ok (.iload_n 1, 1) := by decide +kernel
theorem dX9_count_1 : decode cX9_count 1 = .ok (.tableswitch 105 0 8 #[51, 56, 61, 66, 71, 79, 84, 92, 97], 51) := by decide +kernel
theorem dX9_count_52 : decode cX9_count 52 = .ok (.aload_n 0, 1) := by decide +kernel
theorem dX9_count_53 : decode cX9_count 53 = .ok (.getfield 94, 3) := by decide +kernel
theorem dX9_count_56 : decode cX9_count 56 = .ok (.ireturn, 1) := by decide +kernel
theorem dX9_count_57 : decode cX9_count 57 = .ok (.aload_n 0, 1) := by decide +kernel
theorem dX9_count_58 : decode cX9_count 58 = .ok (.getfield 105, 3) := by decide +kernel
theorem dX9_count_61 : decode cX9_count 61 = .ok (.ireturn, 1) := by decide +kernel
theorem dX9_count_62 : decode cX9_count 62 = .ok (.aload_n 0, 1) := by decide +kernel
theorem dX9_count_63 : decode cX9_count 63 = .ok (.getfield 125, 3) := by decide +kernel
theorem dX9_count_66 : decode cX9_count 66 = .ok (.ireturn, 1) := by decide +kernel
theorem dX9_count_67 : decode cX9_count 67 = .ok (.aload_n 0, 1) := by decide +kernel
theorem dX9_count_68 : decode cX9_count 68 = .ok (.invokevirtual 405, 3) := by decide +kernel
theorem dX9_count_71 : decode cX9_count 71 = .ok (.ireturn, 1) := by decide +kernel
theorem dX9_count_72 : decode cX9_count 72 = .ok (.aload_n 0, 1) := by decide +kernel
theorem dX9_count_73 : decode cX9_count 73 = .ok (.getfield 42, 3) := by decide +kernel
theorem dX9_count_76 : decode cX9_count 76 = .ok (.getfield 158, 3) := by decide +kernel
theorem dX9_count_79 : decode cX9_count 79 = .ok (.ireturn, 1) := by decide +kernel
theorem dX9_count_80 : decode cX9_count 80 = .ok (.aload_n 0, 1) := by decide +kernel
theorem dX9_count_81 : decode cX9_count 81 = .ok (.getfield 181, 3) := by decide +kernel
theorem dX9_count_84 : decode cX9_count 84 = .ok (.ireturn, 1) := by decide +kernel
theorem dX9_count_85 : decode cX9_count 85 = .ok (.aload_n 0, 1) := by decide +kernel
theorem dX9_count_86 : decode cX9_count 86 = .ok (.getfield 58, 3) := by decide +kernel
theorem dX9_count_89 : decode cX9_count 89 = .ok (.getfield 278, 3) := by decide +kernel
theorem dX9_count_92 : decode cX9_count 92 = .ok (.ireturn, 1) := by decide +kernel
theorem dX9_count_93 : decode cX9_count 93 = .ok (.aload_n 0, 1) := by decide +kernel
theorem dX9_count_94 : decode cX9_count 94 = .ok (.getfield 98, 3) := by decide +kernel
theorem dX9_count_97 : decode cX9_count 97 = .ok (.ireturn, 1) := by decide +kernel
theorem dX9_count_98 : decode cX9_count 98 = .ok (.aload_n 0, 1) := by decide +kernel
theorem dX9_count_99 : decode cX9_count 99 = .ok (.getfield 86, 3) := by decide +kernel
theorem dX9_count_102 : decode cX9_count 102 = .ok (.getfield 381, 3) := by decide +kernel
theorem dX9_count_105 : decode cX9_count 105 = .ok (.ireturn, 1) := by decide +kernel
theorem dX9_count_106 : decode cX9_count 106 = .ok (.iconst (-1), 1) := by decide +kernel
theorem dX9_count_107 : decode cX9_count 107 = .ok (.ireturn, 1) := by decide +kernel
theorem dX9_livingJudges_0 : decode cX9_livingJudges 0 = .ok (.iconst 0, 1) := by decide +kernel
theorem dX9_livingJudges_1 : decode cX9_livingJudges 1 = .ok (.istore_n 1, 1) := by decide +kernel
theorem dX9_livingJudges_2 : decode cX9_livingJudges 2 = .ok (.iconst 0, 1) := by decide +kernel
theorem dX9_livingJudges_3 : decode cX9_livingJudges 3 = .ok (.istore_n 2, 1) := by decide +kernel
theorem dX9_livingJudges_4 : decode cX9_livingJudges 4 = .ok (.iload_n 2, 1) := by decide +kernel
theorem dX9_livingJudges_5 : decode cX9_livingJudges 5 = .ok (.aload_n 0, 1) := by decide +kernel
theorem dX9_livingJudges_6 : decode cX9_livingJudges 6 = .ok (.getfield 125, 3) := by decide +kernel
theorem dX9_livingJudges_9 : decode cX9_livingJudges 9 = .ok (.if_icmp .ge 41, 3) := by decide +kernel
theorem dX9_livingJudges_12 : decode cX9_livingJudges 12 = .ok (.iload_n 1, 1) := by decide +kernel
theorem dX9_livingJudges_13 : decode cX9_livingJudges 13 = .ok (.aload_n 0, 1) := by decide +kernel
theorem dX9_livingJudges_14 : decode cX9_livingJudges 14 = .ok (.getfield 35, 3) := by decide +kernel
theorem dX9_livingJudges_17 : decode cX9_livingJudges 17 = .ok (.iload_n 2, 1) := by decide +kernel
theorem dX9_livingJudges_18 : decode cX9_livingJudges 18 = .ok (.aaload, 1) := by decide +kernel
theorem dX9_livingJudges_19 : decode cX9_livingJudges 19 = .ok (.getfield 152, 3) := by decide +kernel
theorem dX9_livingJudges_22 : decode cX9_livingJudges 22 = .ok (.ifCond .eq 19, 3) := by decide +kernel
theorem dX9_livingJudges_25 : decode cX9_livingJudges 25 = .ok (.aload_n 0, 1) := by decide +kernel
theorem dX9_livingJudges_26 : decode cX9_livingJudges 26 = .ok (.getfield 35, 3) := by decide +kernel
theorem dX9_livingJudges_29 : decode cX9_livingJudges 29 = .ok (.iload_n 2, 1) := by decide +kernel
theorem dX9_livingJudges_30 : decode cX9_livingJudges 30 = .ok (.aaload, 1) := by decide +kernel
theorem dX9_livingJudges_31 : decode cX9_livingJudges 31 = .ok (.getfield 148, 3) := by decide +kernel
theorem dX9_livingJudges_34 : decode cX9_livingJudges 34 = .ok (.ifCond .ne 7, 3) := by decide +kernel
theorem dX9_livingJudges_37 : decode cX9_livingJudges 37 = .ok (.iconst 1, 1) := by decide +kernel
theorem dX9_livingJudges_38 : decode cX9_livingJudges 38 = .ok (.goto 4, 3) := by decide +kernel
theorem dX9_livingJudges_41 : decode cX9_livingJudges 41 = .ok (.iconst 0, 1) := by decide +kernel
theorem dX9_livingJudges_42 : decode cX9_livingJudges 42 = .ok (.iadd, 1) := by decide +kernel
theorem dX9_livingJudges_43 : decode cX9_livingJudges 43 = .ok (.istore_n 1, 1) := by decide +kernel
theorem dX9_livingJudges_44 : decode cX9_livingJudges 44 = .ok (.iinc 2 1, 3) := by decide +kernel
theorem dX9_livingJudges_47 : decode cX9_livingJudges 47 = .ok (.goto (-43), 3) := by decide +kernel
theorem dX9_livingJudges_50 : decode cX9_livingJudges 50 = .ok (.iload_n 1, 1) := by decide +kernel
theorem dX9_livingJudges_51 : decode cX9_livingJudges 51 = .ok (.ireturn, 1) := by decide +kernel
theorem dX9_personAt_0 : decode cX9_personAt 0 = .ok (.iload_n 1, 1) := by decide +kernel
theorem dX9_personAt_1 : decode cX9_personAt 1 = .ok (.ifCond .lt 11, 3) := by decide +kernel
theorem dX9_personAt_4 : decode cX9_personAt 4 = .ok (.iload_n 1, 1) := by decide +kernel
theorem dX9_personAt_5 : decode cX9_personAt 5 = .ok (.aload_n 0, 1) := by decide +kernel
theorem dX9_personAt_6 : decode cX9_personAt 6 = .ok (.getfield 125, 3) := by decide +kernel
theorem dX9_personAt_9 : decode cX9_personAt 9 = .ok (.if_icmp .lt 7, 3) := by decide +kernel
theorem dX9_personAt_12 : decode cX9_personAt 12 = .ok (.aconst_null, 1) := by decide +kernel
theorem dX9_personAt_13 : decode cX9_personAt 13 = .ok (.goto 9, 3) := by decide +kernel
theorem dX9_personAt_16 : decode cX9_personAt 16 = .ok (.aload_n 0, 1) := by decide +kernel
theorem dX9_personAt_17 : decode cX9_personAt 17 = .ok (.getfield 35, 3) := by decide +kernel
theorem dX9_personAt_20 : decode cX9_personAt 20 = .ok (.iload_n 1, 1) := by decide +kernel
theorem dX9_personAt_21 : decode cX9_personAt 21 = .ok (.aaload, 1) := by decide +kernel
theorem dX9_personAt_22 : decode cX9_personAt 22 = .ok (.areturn, 1) := by decide +kernel
theorem dX9_claimAt_0 : decode cX9_claimAt 0 = .ok (.iload_n 1, 1) := by decide +kernel
theorem dX9_claimAt_1 : decode cX9_claimAt 1 = .ok (.ifCond .lt 11, 3) := by decide +kernel
theorem dX9_claimAt_4 : decode cX9_claimAt 4 = .ok (.iload_n 1, 1) := by decide +kernel
theorem dX9_claimAt_5 : decode cX9_claimAt 5 = .ok (.aload_n 0, 1) := by decide +kernel
theorem dX9_claimAt_6 : decode cX9_claimAt 6 = .ok (.getfield 181, 3) := by decide +kernel
theorem dX9_claimAt_9 : decode cX9_claimAt 9 = .ok (.if_icmp .lt 7, 3) := by decide +kernel
theorem dX9_claimAt_12 : decode cX9_claimAt 12 = .ok (.aconst_null, 1) := by decide +kernel
theorem dX9_claimAt_13 : decode cX9_claimAt 13 = .ok (.goto 9, 3) := by decide +kernel
theorem dX9_claimAt_16 : decode cX9_claimAt 16 = .ok (.aload_n 0, 1) := by decide +kernel
theorem dX9_claimAt_17 : decode cX9_claimAt 17 = .ok (.getfield 48, 3) := by decide +kernel
theorem dX9_claimAt_20 : decode cX9_claimAt 20 = .ok (.iload_n 1, 1) := by decide +kernel
theorem dX9_claimAt_21 : decode cX9_claimAt 21 = .ok (.aaload, 1) := by decide +kernel
theorem dX9_claimAt_22 : decode cX9_claimAt 22 = .ok (.areturn, 1) := by decide +kernel
theorem dX9_areTwo_0 : decode cX9_areTwo 0 = .ok (.iload_n 1, 1) := by decide +kernel
theorem dX9_areTwo_1 : decode cX9_areTwo 1 = .ok (.iload_n 2, 1) := by decide +kernel
theorem dX9_areTwo_2 : decode cX9_areTwo 2 = .ok (.if_icmp .eq 23, 3) := by decide +kernel
theorem dX9_areTwo_5 : decode cX9_areTwo 5 = .ok (.aload_n 0, 1) := by decide +kernel
theorem dX9_areTwo_6 : decode cX9_areTwo 6 = .ok (.iload_n 1, 1) := by decide +kernel
theorem dX9_areTwo_7 : decode cX9_areTwo 7 = .ok (.invokevirtual 144, 3) := by decide +kernel
theorem dX9_areTwo_10 : decode cX9_areTwo 10 = .ok (.ifnull 15, 3) := by decide +kernel
theorem dX9_areTwo_13 : decode cX9_areTwo 13 = .ok (.aload_n 0, 1) := by decide +kernel
theorem dX9_areTwo_14 : decode cX9_areTwo 14 = .ok (.iload_n 2, 1) := by decide +kernel
theorem dX9_areTwo_15 : decode cX9_areTwo 15 = .ok (.invokevirtual 144, 3) := by decide +kernel
theorem dX9_areTwo_18 : decode cX9_areTwo 18 = .ok (.ifnull 7, 3) := by decide +kernel
theorem dX9_areTwo_21 : decode cX9_areTwo 21 = .ok (.iconst 1, 1) := by decide +kernel
theorem dX9_areTwo_22 : decode cX9_areTwo 22 = .ok (.goto 4, 3) := by decide +kernel
theorem dX9_areTwo_25 : decode cX9_areTwo 25 = .ok (.iconst 0, 1) := by decide +kernel
theorem dX9_areTwo_26 : decode cX9_areTwo 26 = .ok (.ireturn, 1) := by decide +kernel
theorem dX9_isDay_0 : decode cX9_isDay 0 = .ok (.iload_n 0, 1) := by decide +kernel
theorem dX9_isDay_1 : decode cX9_isDay 1 = .ok (.iconst 0, 1) := by decide +kernel
theorem dX9_isDay_2 : decode cX9_isDay 2 = .ok (.sipush 7999, 3) := by decide +kernel
theorem dX9_isDay_5 : decode cX9_isDay 5 = .ok (.invokestatic 128, 3) := by decide +kernel
theorem dX9_isDay_8 : decode cX9_isDay 8 = .ok (.ireturn, 1) := by decide +kernel
theorem dX9_isHousehold_0 : decode cX9_isHousehold 0 = .ok (.iload_n 0, 1) := by decide +kernel
theorem dX9_isHousehold_1 : decode cX9_isHousehold 1 = .ok (.iconst 0, 1) := by decide +kernel
theorem dX9_isHousehold_2 : decode cX9_isHousehold 2 = .ok (.sipush 9999, 3) := by decide +kernel
theorem dX9_isHousehold_5 : decode cX9_isHousehold 5 = .ok (.invokestatic 128, 3) := by decide +kernel
theorem dX9_isHousehold_8 : decode cX9_isHousehold 8 = .ok (.ifCond .eq 37, 3) := by decide +kernel
theorem dX9_isHousehold_11 : decode cX9_isHousehold 11 = .ok (.iload_n 1, 1) := by decide +kernel
theorem dX9_isHousehold_12 : decode cX9_isHousehold 12 = .ok (.iconst 1, 1) := by decide +kernel
theorem dX9_isHousehold_13 : decode cX9_isHousehold 13 = .ok (.bipush 20, 2) := by decide +kernel
theorem dX9_isHousehold_15 : decode cX9_isHousehold 15 = .ok (.invokestatic 128, 3) := by decide +kernel
theorem dX9_isHousehold_18 : decode cX9_isHousehold 18 = .ok (.ifCond .eq 27, 3) := by decide +kernel
theorem dX9_isHousehold_21 : decode cX9_isHousehold 21 = .ok (.iload_n 2, 1) := by decide +kernel
theorem dX9_isHousehold_22 : decode cX9_isHousehold 22 = .ok (.iconst 0, 1) := by decide +kernel
theorem dX9_isHousehold_23 : decode cX9_isHousehold 23 = .ok (.bipush 99, 2) := by decide +kernel
theorem dX9_isHousehold_25 : decode cX9_isHousehold 25 = .ok (.invokestatic 128, 3) := by decide +kernel
theorem dX9_isHousehold_28 : decode cX9_isHousehold 28 = .ok (.ifCond .eq 17, 3) := by decide +kernel
theorem dX9_isHousehold_31 : decode cX9_isHousehold 31 = .ok (.iload_n 3, 1) := by decide +kernel
theorem dX9_isHousehold_32 : decode cX9_isHousehold 32 = .ok (.iconst 0, 1) := by decide +kernel
theorem dX9_isHousehold_33 : decode cX9_isHousehold 33 = .ok (.bipush 99, 2) := by decide +kernel
theorem dX9_isHousehold_35 : decode cX9_isHousehold 35 = .ok (.invokestatic 128, 3) := by decide +kernel
theorem dX9_isHousehold_38 : decode cX9_isHousehold 38 = .ok (.ifCond .eq 7, 3) := by decide +kernel
theorem dX9_isHousehold_41 : decode cX9_isHousehold 41 = .ok (.iconst 1, 1) := by decide +kernel
theorem dX9_isHousehold_42 : decode cX9_isHousehold 42 = .ok (.goto 4, 3) := by decide +kernel
theorem dX9_isHousehold_45 : decode cX9_isHousehold 45 = .ok (.iconst 0, 1) := by decide +kernel
theorem dX9_isHousehold_46 : decode cX9_isHousehold 46 = .ok (.ireturn, 1) := by decide +kernel
theorem dX9_isWithin_0 : decode cX9_isWithin 0 = .ok (.iload_n 0, 1) := by decide +kernel
theorem dX9_isWithin_1 : decode cX9_isWithin 1 = .ok (.iload_n 1, 1) := by decide +kernel
theorem dX9_isWithin_2 : decode cX9_isWithin 2 = .ok (.if_icmp .lt 12, 3) := by decide +kernel
theorem dX9_isWithin_5 : decode cX9_isWithin 5 = .ok (.iload_n 0, 1) := by decide +kernel
theorem dX9_isWithin_6 : decode cX9_isWithin 6 = .ok (.iload_n 2, 1) := by decide +kernel
theorem dX9_isWithin_7 : decode cX9_isWithin 7 = .ok (.if_icmp .gt 7, 3) := by decide +kernel
theorem dX9_isWithin_10 : decode cX9_isWithin 10 = .ok (.iconst 1, 1) := by decide +kernel
theorem dX9_isWithin_11 : decode cX9_isWithin 11 = .ok (.goto 4, 3) := by decide +kernel
theorem dX9_isWithin_14 : decode cX9_isWithin 14 = .ok (.iconst 0, 1) := by decide +kernel
theorem dX9_isWithin_15 : decode cX9_isWithin 15 = .ok (.ireturn, 1) := by decide +kernel
theorem dX9_roundUp_0 : decode cX9_roundUp 0 = .ok (.iload_n 0, 1) := by decide +kernel
theorem dX9_roundUp_1 : decode cX9_roundUp 1 = .ok (.ifCond .le 8, 3) := by decide +kernel
theorem dX9_roundUp_4 : decode cX9_roundUp 4 = .ok (.iload_n 1, 1) := by decide +kernel
theorem dX9_roundUp_5 : decode cX9_roundUp 5 = .ok (.iconst 1, 1) := by decide +kernel
theorem dX9_roundUp_6 : decode cX9_roundUp 6 = .ok (.if_icmp .ge 7, 3) := by decide +kernel
theorem dX9_roundUp_9 : decode cX9_roundUp 9 = .ok (.iconst 0, 1) := by decide +kernel
theorem dX9_roundUp_10 : decode cX9_roundUp 10 = .ok (.goto 10, 3) := by decide +kernel
theorem dX9_roundUp_13 : decode cX9_roundUp 13 = .ok (.iload_n 0, 1) := by decide +kernel
theorem dX9_roundUp_14 : decode cX9_roundUp 14 = .ok (.iconst 1, 1) := by decide +kernel
theorem dX9_roundUp_15 : decode cX9_roundUp 15 = .ok (.isub, 1) := by decide +kernel
theorem dX9_roundUp_16 : decode cX9_roundUp 16 = .ok (.iload_n 1, 1) := by decide +kernel
theorem dX9_roundUp_17 : decode cX9_roundUp 17 = .ok (.idiv, 1) := by decide +kernel
theorem dX9_roundUp_18 : decode cX9_roundUp 18 = .ok (.iconst 1, 1) := by decide +kernel
theorem dX9_roundUp_19 : decode cX9_roundUp 19 = .ok (.iadd, 1) := by decide +kernel
theorem dX9_roundUp_20 : decode cX9_roundUp 20 = .ok (.ireturn, 1) := by decide +kernel
theorem dX10_init_0 : decode cX10_init 0 = .ok (.aload_n 0, 1) := by decide +kernel
theorem dX10_init_1 : decode cX10_init 1 = .ok (.invokespecial 1, 3) := by decide +kernel
theorem dX10_init_4 : decode cX10_init 4 = .ok (.aload_n 0, 1) := by decide +kernel
theorem dX10_init_5 : decode cX10_init 5 = .ok (.bipush 9, 2) := by decide +kernel
theorem dX10_init_7 : decode cX10_init 7 = .ok (.newarray .int, 2) := by decide +kernel
theorem dX10_init_9 : decode cX10_init 9 = .ok (.putfield 7, 3) := by decide +kernel
theorem dX10_init_12 : decode cX10_init 12 = .ok (.aload_n 0, 1) := by decide +kernel
theorem dX10_init_13 : decode cX10_init 13 = .ok (.bipush 117, 2) := by decide +kernel
theorem dX10_init_15 : decode cX10_init 15 = .ok (.newarray .int, 2) := by decide +kernel
theorem dX10_init_17 : decode cX10_init 17 = .ok (.putfield 13, 3) := by decide +kernel
theorem dX10_init_20 : decode cX10_init 20 = .ok (.aload_n 0, 1) := by decide +kernel
theorem dX10_init_21 : decode cX10_init 21 = .ok (.bipush 9, 2) := by decide +kernel
theorem dX10_init_23 : decode cX10_init 23 = .ok (.newarray .int, 2) := by decide +kernel
theorem dX10_init_25 : decode cX10_init 25 = .ok (.putfield 16, 3) := by decide +kernel
theorem dX10_init_28 : decode cX10_init 28 = .ok (.aload_n 0, 1) := by decide +kernel
theorem dX10_init_29 : decode cX10_init 29 = .ok (.sipush 1152, 3) := by decide +kernel
theorem dX10_init_32 : decode cX10_init 32 = .ok (.newarray .int, 2) := by decide +kernel
theorem dX10_init_34 : decode cX10_init 34 = .ok (.putfield 19, 3) := by decide +kernel
theorem dX10_init_37 : decode cX10_init 37 = .ok (.aload_n 0, 1) := by decide +kernel
theorem dX10_init_38 : decode cX10_init 38 = .ok (.sipush 400, 3) := by decide +kernel
theorem dX10_init_41 : decode cX10_init 41 = .ok (.newarray .byte, 2) := by decide +kernel
theorem dX10_init_43 : decode cX10_init 43 = .ok (.putfield 22, 3) := by decide +kernel
theorem dX10_init_46 : decode cX10_init 46 = .ok (.aload_n 0, 1) := by decide +kernel
theorem dX10_init_47 : decode cX10_init 47 = .ok (.bipush 13, 2) := by decide +kernel
theorem dX10_init_49 : decode cX10_init 49 = .ok (.newarray .int, 2) := by decide +kernel
theorem dX10_init_51 : decode cX10_init 51 = .ok (.putfield 26, 3) := by decide +kernel
theorem dX10_init_54 : decode cX10_init 54 = .ok (.aload_n 0, 1) := by decide +kernel
theorem dX10_init_55 : decode cX10_init 55 = .ok (.sipush 128, 3) := by decide +kernel
theorem dX10_init_58 : decode cX10_init 58 = .ok (.newarray .int, 2) := by decide +kernel
theorem dX10_init_60 : decode cX10_init 60 = .ok (.putfield 29, 3) := by decide +kernel
theorem dX10_init_63 : decode cX10_init 63 = .ok (.aload_n 0, 1) := by decide +kernel
theorem dX10_init_64 : decode cX10_init 64 = .ok (.sipush 128, 3) := by decide +kernel
theorem dX10_init_67 : decode cX10_init 67 = .ok (.newarray .int, 2) := by decide +kernel
theorem dX10_init_69 : decode cX10_init 69 = .ok (.putfield 32, 3) := by decide +kernel
theorem dX10_init_72 : decode cX10_init 72 = .ok (.aload_n 0, 1) := by decide +kernel
theorem dX10_init_73 : decode cX10_init 73 = .ok (.sipush 175, 3) := by decide +kernel
theorem dX10_init_76 : decode cX10_init 76 = .ok (.newarray .byte, 2) := by decide +kernel
theorem dX10_init_78 : decode cX10_init 78 = .ok (.dup, 1) := by decide +kernel
theorem dX10_init_79 : decode cX10_init 79 = .ok (.iconst 0, 1) := by decide +kernel
theorem dX10_init_80 : decode cX10_init 80 = .ok (.bipush 111, 2) := by decide +kernel
theorem dX10_init_82 : decode cX10_init 82 = .ok (.bastore, 1) := by decide +kernel
theorem dX10_init_83 : decode cX10_init 83 = .ok (.dup, 1) := by decide +kernel
theorem dX10_init_84 : decode cX10_init 84 = .ok (.iconst 1, 1) := by decide +kernel
theorem dX10_init_85 : decode cX10_init 85 = .ok (.bipush 114, 2) := by decide +kernel
theorem dX10_init_87 : decode cX10_init 87 = .ok (.bastore, 1) := by decide +kernel
theorem dX10_init_88 : decode cX10_init 88 = .ok (.dup, 1) := by decide +kernel
theorem dX10_init_89 : decode cX10_init 89 = .ok (.iconst 2, 1) := by decide +kernel
theorem dX10_init_90 : decode cX10_init 90 = .ok (.iconst 0, 1) := by decide +kernel
theorem dX10_init_91 : decode cX10_init 91 = .ok (.bastore, 1) := by decide +kernel
theorem dX10_init_92 : decode cX10_init 92 = .ok (.dup, 1) := by decide +kernel
theorem dX10_init_93 : decode cX10_init 93 = .ok (.iconst 3, 1) := by decide +kernel
theorem dX10_init_94 : decode cX10_init 94 = .ok (.iconst 0, 1) := by decide +kernel
theorem dX10_init_95 : decode cX10_init 95 = .ok (.bastore, 1) := by decide +kernel
theorem dX10_init_96 : decode cX10_init 96 = .ok (.dup, 1) := by decide +kernel
theorem dX10_init_97 : decode cX10_init 97 = .ok (.iconst 4, 1) := by decide +kernel
theorem dX10_init_98 : decode cX10_init 98 = .ok (.iconst 0, 1) := by decide +kernel
theorem dX10_init_99 : decode cX10_init 99 = .ok (.bastore, 1) := by decide +kernel
theorem dX10_init_100 : decode cX10_init 100 = .ok (.dup, 1) := by decide +kernel
theorem dX10_init_101 : decode cX10_init 101 = .ok (.iconst 5, 1) := by decide +kernel
theorem dX10_init_102 : decode cX10_init 102 = .ok (.iconst 0, 1) := by decide +kernel
theorem dX10_init_103 : decode cX10_init 103 = .ok (.bastore, 1) := by decide +kernel
theorem dX10_init_104 : decode cX10_init 104 = .ok (.dup, 1) := by decide +kernel
theorem dX10_init_105 : decode cX10_init 105 = .ok (.bipush 6, 2) := by decide +kernel
theorem dX10_init_107 : decode cX10_init 107 = .ok (.iconst 0, 1) := by decide +kernel
theorem dX10_init_108 : decode cX10_init 108 = .ok (.bastore, 1) := by decide +kernel
theorem dX10_init_109 : decode cX10_init 109 = .ok (.dup, 1) := by decide +kernel
theorem dX10_init_110 : decode cX10_init 110 = .ok (.bipush 7, 2) := by decide +kernel
theorem dX10_init_112 : decode cX10_init 112 = .ok (.bipush 97, 2) := by decide +kernel
theorem dX10_init_114 : decode cX10_init 114 = .ok (.bastore, 1) := by decide +kernel
theorem dX10_init_115 : decode cX10_init 115 = .ok (.dup, 1) := by decide +kernel
theorem dX10_init_116 : decode cX10_init 116 = .ok (.bipush 8, 2) := by decide +kernel
theorem dX10_init_118 : decode cX10_init 118 = .ok (.bipush 110, 2) := by decide +kernel
theorem dX10_init_120 : decode cX10_init 120 = .ok (.bastore, 1) := by decide +kernel
theorem dX10_init_121 : decode cX10_init 121 = .ok (.dup, 1) := by decide +kernel
theorem dX10_init_122 : decode cX10_init 122 = .ok (.bipush 9, 2) := by decide +kernel
theorem dX10_init_124 : decode cX10_init 124 = .ok (.bipush 100, 2) := by decide +kernel
theorem dX10_init_126 : decode cX10_init 126 = .ok (.bastore, 1) := by decide +kernel
theorem dX10_init_127 : decode cX10_init 127 = .ok (.dup, 1) := by decide +kernel
theorem dX10_init_128 : decode cX10_init 128 = .ok (.bipush 10, 2) := by decide +kernel
theorem dX10_init_130 : decode cX10_init 130 = .ok (.iconst 0, 1) := by decide +kernel
theorem dX10_init_131 : decode cX10_init 131 = .ok (.bastore, 1) := by decide +kernel
theorem dX10_init_132 : decode cX10_init 132 = .ok (.dup, 1) := by decide +kernel
theorem dX10_init_133 : decode cX10_init 133 = .ok (.bipush 11, 2) := by decide +kernel
theorem dX10_init_135 : decode cX10_init 135 = .ok (.iconst 0, 1) := by decide +kernel
theorem dX10_init_136 : decode cX10_init 136 = .ok (.bastore, 1) := by decide +kernel
theorem dX10_init_137 : decode cX10_init 137 = .ok (.dup, 1) := by decide +kernel
theorem dX10_init_138 : decode cX10_init 138 = .ok (.bipush 12, 2) := by decide +kernel
theorem dX10_init_140 : decode cX10_init 140 = .ok (.iconst 0, 1) := by decide +kernel
theorem dX10_init_141 : decode cX10_init 141 = .ok (.bastore, 1) := by decide +kernel
theorem dX10_init_142 : decode cX10_init 142 = .ok (.dup, 1) := by decide +kernel
theorem dX10_init_143 : decode cX10_init 143 = .ok (.bipush 13, 2) := by decide +kernel
theorem dX10_init_145 : decode cX10_init 145 = .ok (.iconst 0, 1) := by decide +kernel
theorem dX10_init_146 : decode cX10_init 146 = .ok (.bastore, 1) := by decide +kernel
theorem dX10_init_147 : decode cX10_init 147 = .ok (.dup, 1) := by decide +kernel
theorem dX10_init_148 : decode cX10_init 148 = .ok (.bipush 14, 2) := by decide +kernel
theorem dX10_init_150 : decode cX10_init 150 = .ok (.bipush 110, 2) := by decide +kernel
theorem dX10_init_152 : decode cX10_init 152 = .ok (.bastore, 1) := by decide +kernel
theorem dX10_init_153 : decode cX10_init 153 = .ok (.dup, 1) := by decide +kernel
theorem dX10_init_154 : decode cX10_init 154 = .ok (.bipush 15, 2) := by decide +kernel
theorem dX10_init_156 : decode cX10_init 156 = .ok (.bipush 111, 2) := by decide +kernel
theorem dX10_init_158 : decode cX10_init 158 = .ok (.bastore, 1) := by decide +kernel
theorem dX10_init_159 : decode cX10_init 159 = .ok (.dup, 1) := by decide +kernel
theorem dX10_init_160 : decode cX10_init 160 = .ok (.bipush 16, 2) := by decide +kernel
theorem dX10_init_162 : decode cX10_init 162 = .ok (.bipush 116, 2) := by decide +kernel
theorem dX10_init_164 : decode cX10_init 164 = .ok (.bastore, 1) := by decide +kernel
theorem dX10_init_165 : decode cX10_init 165 = .ok (.dup, 1) := by decide +kernel
theorem dX10_init_166 : decode cX10_init 166 = .ok (.bipush 17, 2) := by decide +kernel
theorem dX10_init_168 : decode cX10_init 168 = .ok (.iconst 0, 1) := by decide +kernel
theorem dX10_init_169 : decode cX10_init 169 = .ok (.bastore, 1) := by decide +kernel
theorem dX10_init_170 : decode cX10_init 170 = .ok (.dup, 1) := by decide +kernel
theorem dX10_init_171 : decode cX10_init 171 = .ok (.bipush 18, 2) := by decide +kernel
theorem dX10_init_173 : decode cX10_init 173 = .ok (.iconst 0, 1) := by decide +kernel
theorem dX10_init_174 : decode cX10_init 174 = .ok (.bastore, 1) := by decide +kernel
theorem dX10_init_175 : decode cX10_init 175 = .ok (.dup, 1) := by decide +kernel
theorem dX10_init_176 : decode cX10_init 176 = .ok (.bipush 19, 2) := by decide +kernel
theorem dX10_init_178 : decode cX10_init 178 = .ok (.iconst 0, 1) := by decide +kernel
theorem dX10_init_179 : decode cX10_init 179 = .ok (.bastore, 1) := by decide +kernel
theorem dX10_init_180 : decode cX10_init 180 = .ok (.dup, 1) := by decide +kernel
theorem dX10_init_181 : decode cX10_init 181 = .ok (.bipush 20, 2) := by decide +kernel
theorem dX10_init_183 : decode cX10_init 183 = .ok (.iconst 0, 1) := by decide +kernel
