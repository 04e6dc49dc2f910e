theorem dX0_init_0 : decode cX0_init 0 = .ok (.aload_n 0, 1) := by decide +kernel
theorem dX0_init_1 : decode cX0_init 1 = .ok (.invokespecial 3, 3) := by decide +kernel
theorem dX0_init_4 : decode cX0_init 4 = .ok (.aload_n 0, 1) := by decide +kernel
theorem dX0_init_5 : decode cX0_init 5 = .ok (.bipush 14, 2) := by decide +kernel
theorem dX0_init_7 : decode cX0_init 7 = .ok (.newarray .int, 2) := by decide +kernel
theorem dX0_init_9 : decode cX0_init 9 = .ok (.putfield 9, 3) := by decide +kernel
theorem dX0_init_12 : decode cX0_init 12 = .ok (.aload_n 0, 1) := by decide +kernel
theorem dX0_init_13 : decode cX0_init 13 = .ok (.sipush 160, 3) := by decide +kernel
theorem dX0_init_16 : decode cX0_init 16 = .ok (.newarray .int, 2) := by decide +kernel
theorem dX0_init_18 : decode cX0_init 18 = .ok (.putfield 15, 3) := by decide +kernel
theorem dX0_init_21 : decode cX0_init 21 = .ok (.aload_n 0, 1) := by decide +kernel
theorem dX0_init_22 : decode cX0_init 22 = .ok (.iload_n 1, 1) := by decide +kernel
theorem dX0_init_23 : decode cX0_init 23 = .ok (.putfield 18, 3) := by decide +kernel
theorem dX0_init_26 : decode cX0_init 26 = .ok (.aload_n 0, 1) := by decide +kernel
theorem dX0_init_27 : decode cX0_init 27 = .ok (.iload_n 2, 1) := by decide +kernel
theorem dX0_init_28 : decode cX0_init 28 = .ok (.putfield 22, 3) := by decide +kernel
theorem dX0_init_31 : decode cX0_init 31 = .ok (.getstatic 25, 3) := by decide +kernel
theorem dX0_init_34 : decode cX0_init 34 = .ok (.iconst 0, 1) := by decide +kernel
theorem dX0_init_35 : decode cX0_init 35 = .ok (.aload_n 0, 1) := by decide +kernel
theorem dX0_init_36 : decode cX0_init 36 = .ok (.getfield 9, 3) := by decide +kernel
theorem dX0_init_39 : decode cX0_init 39 = .ok (.iconst 0, 1) := by decide +kernel
theorem dX0_init_40 : decode cX0_init 40 = .ok (.bipush 14, 2) := by decide +kernel
theorem dX0_init_42 : decode cX0_init 42 = .ok (.invokestatic 28, 3) := by decide +kernel
theorem dX0_init_45 : decode cX0_init 45 = .ok (.aload_n 0, 1) := by decide +kernel
theorem dX0_init_46 : decode cX0_init 46 = .ok (.getfield 15, 3) := by decide +kernel
theorem dX0_init_49 : decode cX0_init 49 = .ok (.iconst 0, 1) := by decide +kernel
theorem dX0_init_50 : decode cX0_init 50 = .ok (.iconst 0, 1) := by decide +kernel
theorem dX0_init_51 : decode cX0_init 51 = .ok (.iconst 2, 1) := by decide +kernel
theorem dX0_init_52 : decode cX0_init 52 = .ok (.iconst 0, 1) := by decide +kernel
theorem dX0_init_53 : decode cX0_init 53 = .ok (.iconst 1, 1) := by decide +kernel
theorem dX0_init_54 : decode cX0_init 54 = .ok (.invokestatic 34, 3) := by decide +kernel
theorem dX0_init_57 : decode cX0_init 57 = .ok (.iastore, 1) := by decide +kernel
theorem dX0_init_58 : decode cX0_init 58 = .ok (.aload_n 0, 1) := by decide +kernel
theorem dX0_init_59 : decode cX0_init 59 = .ok (.getfield 15, 3) := by decide +kernel
theorem dX0_init_62 : decode cX0_init 62 = .ok (.iconst 1, 1) := by decide +kernel
theorem dX0_init_63 : decode cX0_init 63 = .ok (.iconst 1, 1) := by decide +kernel
theorem dX0_init_64 : decode cX0_init 64 = .ok (.iconst 2, 1) := by decide +kernel
theorem dX0_init_65 : decode cX0_init 65 = .ok (.iconst 0, 1) := by decide +kernel
theorem dX0_init_66 : decode cX0_init 66 = .ok (.iconst 0, 1) := by decide +kernel
theorem dX0_init_67 : decode cX0_init 67 = .ok (.invokestatic 34, 3) := by decide +kernel
theorem dX0_init_70 : decode cX0_init 70 = .ok (.iastore, 1) := by decide +kernel
theorem dX0_init_71 : decode cX0_init 71 = .ok (.aload_n 0, 1) := by decide +kernel
theorem dX0_init_72 : decode cX0_init 72 = .ok (.getfield 15, 3) := by decide +kernel
theorem dX0_init_75 : decode cX0_init 75 = .ok (.iconst 2, 1) := by decide +kernel
theorem dX0_init_76 : decode cX0_init 76 = .ok (.iconst (-1), 1) := by decide +kernel
theorem dX0_init_77 : decode cX0_init 77 = .ok (.iastore, 1) := by decide +kernel
theorem dX0_init_78 : decode cX0_init 78 = .ok (.aload_n 0, 1) := by decide +kernel
theorem dX0_init_79 : decode cX0_init 79 = .ok (.iconst 3, 1) := by decide +kernel
theorem dX0_init_80 : decode cX0_init 80 = .ok (.putfield 38, 3) := by decide +kernel
theorem dX0_init_83 : decode cX0_init 83 = .ok (.return_, 1) := by decide +kernel
theorem dX0_term_0 : decode cX0_term 0 = .ok (.iload_n 0, 1) := by decide +kernel
theorem dX0_term_1 : decode cX0_term 1 = .ok (.iload_n 1, 1) := by decide +kernel
theorem dX0_term_2 : decode cX0_term 2 = .ok (.iconst 3, 1) := by decide +kernel
theorem dX0_term_3 : decode cX0_term 3 = .ok (.ishl, 1) := by decide +kernel
theorem dX0_term_4 : decode cX0_term 4 = .ok (.ior, 1) := by decide +kernel
theorem dX0_term_5 : decode cX0_term 5 = .ok (.iload_n 2, 1) := by decide +kernel
theorem dX0_term_6 : decode cX0_term 6 = .ok (.ifCond .eq 7, 3) := by decide +kernel
theorem dX0_term_9 : decode cX0_term 9 = .ok (.iconst 1, 1) := by decide +kernel
theorem dX0_term_10 : decode cX0_term 10 = .ok (.goto 4, 3) := by decide +kernel
theorem dX0_term_13 : decode cX0_term 13 = .ok (.iconst 0, 1) := by decide +kernel
theorem dX0_term_14 : decode cX0_term 14 = .ok (.bipush 6, 2) := by decide +kernel
theorem dX0_term_16 : decode cX0_term 16 = .ok (.ishl, 1) := by decide +kernel
theorem dX0_term_17 : decode cX0_term 17 = .ok (.ior, 1) := by decide +kernel
theorem dX0_term_18 : decode cX0_term 18 = .ok (.iload_n 3, 1) := by decide +kernel
theorem dX0_term_19 : decode cX0_term 19 = .ok (.bipush 7, 2) := by decide +kernel
theorem dX0_term_21 : decode cX0_term 21 = .ok (.ishl, 1) := by decide +kernel
theorem dX0_term_22 : decode cX0_term 22 = .ok (.ior, 1) := by decide +kernel
theorem dX0_term_23 : decode cX0_term 23 = .ok (.ireturn, 1) := by decide +kernel
theorem dX0_addProof_0 : decode cX0_addProof 0 = .ok (.aload_n 0, 1) := by decide +kernel
theorem dX0_addProof_1 : decode cX0_addProof 1 = .ok (.getfield 38, 3) := by decide +kernel
theorem dX0_addProof_4 : decode cX0_addProof 4 = .ok (.sipush 160, 3) := by decide +kernel
theorem dX0_addProof_7 : decode cX0_addProof 7 = .ok (.if_icmp .ge 23, 3) := by decide +kernel
theorem dX0_addProof_10 : decode cX0_addProof 10 = .ok (.aload_n 0, 1) := by decide +kernel
theorem dX0_addProof_11 : decode cX0_addProof 11 = .ok (.getfield 15, 3) := by decide +kernel
theorem dX0_addProof_14 : decode cX0_addProof 14 = .ok (.aload_n 0, 1) := by decide +kernel
theorem dX0_addProof_15 : decode cX0_addProof 15 = .ok (.getfield 38, 3) := by decide +kernel
theorem dX0_addProof_18 : decode cX0_addProof 18 = .ok (.iload_n 1, 1) := by decide +kernel
theorem dX0_addProof_19 : decode cX0_addProof 19 = .ok (.iastore, 1) := by decide +kernel
theorem dX0_addProof_20 : decode cX0_addProof 20 = .ok (.aload_n 0, 1) := by decide +kernel
theorem dX0_addProof_21 : decode cX0_addProof 21 = .ok (.dup, 1) := by decide +kernel
theorem dX0_addProof_22 : decode cX0_addProof 22 = .ok (.getfield 38, 3) := by decide +kernel
theorem dX0_addProof_25 : decode cX0_addProof 25 = .ok (.iconst 1, 1) := by decide +kernel
theorem dX0_addProof_26 : decode cX0_addProof 26 = .ok (.iadd, 1) := by decide +kernel
theorem dX0_addProof_27 : decode cX0_addProof 27 = .ok (.putfield 38, 3) := by decide +kernel
theorem dX0_addProof_30 : decode cX0_addProof 30 = .ok (.return_, 1) := by decide +kernel
theorem dX0_proves_0 : decode cX0_proves 0 = .ok (.iconst 0, 1) := by decide +kernel
theorem dX0_proves_1 : decode cX0_proves 1 = .ok (.istore_n 2, 1) := by decide +kernel
theorem dX0_proves_2 : decode cX0_proves 2 = .ok (.iconst 0, 1) := by decide +kernel
theorem dX0_proves_3 : decode cX0_proves 3 = .ok (.istore_n 3, 1) := by decide +kernel
theorem dX0_proves_4 : decode cX0_proves 4 = .ok (.iload_n 3, 1) := by decide +kernel
theorem dX0_proves_5 : decode cX0_proves 5 = .ok (.aload_n 0, 1) := by decide +kernel
theorem dX0_proves_6 : decode cX0_proves 6 = .ok (.getfield 38, 3) := by decide +kernel
theorem dX0_proves_9 : decode cX0_proves 9 = .ok (.if_icmp .ge 113, 3) := by decide +kernel
theorem dX0_proves_12 : decode cX0_proves 12 = .ok (.iload_n 2, 1) := by decide +kernel
theorem dX0_proves_13 : decode cX0_proves 13 = .ok (.iconst 1, 1) := by decide +kernel
theorem dX0_proves_14 : decode cX0_proves 14 = .ok (.iand, 1) := by decide +kernel
theorem dX0_proves_15 : decode cX0_proves 15 = .ok (.istore 4, 2) := by decide +kernel
theorem dX0_proves_17 : decode cX0_proves 17 = .ok (.iload_n 2, 1) := by decide +kernel
theorem dX0_proves_18 : decode cX0_proves 18 = .ok (.iconst 1, 1) := by decide +kernel
theorem dX0_proves_19 : decode cX0_proves 19 = .ok (.ishr, 1) := by decide +kernel
theorem dX0_proves_20 : decode cX0_proves 20 = .ok (.iconst 1, 1) := by decide +kernel
theorem dX0_proves_21 : decode cX0_proves 21 = .ok (.iand, 1) := by decide +kernel
theorem dX0_proves_22 : decode cX0_proves 22 = .ok (.istore 5, 2) := by decide +kernel
theorem dX0_proves_24 : decode cX0_proves 24 = .ok (.aload_n 0, 1) := by decide +kernel
theorem dX0_proves_25 : decode cX0_proves 25 = .ok (.getfield 15, 3) := by decide +kernel
theorem dX0_proves_28 : decode cX0_proves 28 = .ok (.iload_n 3, 1) := by decide +kernel
theorem dX0_proves_29 : decode cX0_proves 29 = .ok (.iaload, 1) := by decide +kernel
theorem dX0_proves_30 : decode cX0_proves 30 = .ok (.tableswitch 63 (-3) (-1) #[26, 48, 33], 26) := by decide +kernel
theorem dX0_proves_56 : decode cX0_proves 56 = .ok (.iload_n 2, 1) := by decide +kernel
theorem dX0_proves_57 : decode cX0_proves 57 = .ok (.iconst 1, 1) := by decide +kernel
theorem dX0_proves_58 : decode cX0_proves 58 = .ok (.ixor, 1) := by decide +kernel
theorem dX0_proves_59 : decode cX0_proves 59 = .ok (.istore_n 2, 1) := by decide +kernel
theorem dX0_proves_60 : decode cX0_proves 60 = .ok (.goto 56, 3) := by decide +kernel
theorem dX0_proves_63 : decode cX0_proves 63 = .ok (.iload_n 2, 1) := by decide +kernel
theorem dX0_proves_64 : decode cX0_proves 64 = .ok (.iconst 2, 1) := by decide +kernel
theorem dX0_proves_65 : decode cX0_proves 65 = .ok (.ishr, 1) := by decide +kernel
theorem dX0_proves_66 : decode cX0_proves 66 = .ok (.iconst 1, 1) := by decide +kernel
theorem dX0_proves_67 : decode cX0_proves 67 = .ok (.ishl, 1) := by decide +kernel
theorem dX0_proves_68 : decode cX0_proves 68 = .ok (.iload 4, 2) := by decide +kernel
theorem dX0_proves_70 : decode cX0_proves 70 = .ok (.iload 5, 2) := by decide +kernel
theorem dX0_proves_72 : decode cX0_proves 72 = .ok (.iand, 1) := by decide +kernel
theorem dX0_proves_73 : decode cX0_proves 73 = .ok (.ior, 1) := by decide +kernel
theorem dX0_proves_74 : decode cX0_proves 74 = .ok (.istore_n 2, 1) := by decide +kernel
theorem dX0_proves_75 : decode cX0_proves 75 = .ok (.goto 41, 3) := by decide +kernel
theorem dX0_proves_78 : decode cX0_proves 78 = .ok (.iload_n 2, 1) := by decide +kernel
theorem dX0_proves_79 : decode cX0_proves 79 = .ok (.iconst 2, 1) := by decide +kernel
theorem dX0_proves_80 : decode cX0_proves 80 = .ok (.ishr, 1) := by decide +kernel
theorem dX0_proves_81 : decode cX0_proves 81 = .ok (.iconst 1, 1) := by decide +kernel
theorem dX0_proves_82 : decode cX0_proves 82 = .ok (.ishl, 1) := by decide +kernel
theorem dX0_proves_83 : decode cX0_proves 83 = .ok (.iload 4, 2) := by decide +kernel
theorem dX0_proves_85 : decode cX0_proves 85 = .ok (.ior, 1) := by decide +kernel
theorem dX0_proves_86 : decode cX0_proves 86 = .ok (.iload 5, 2) := by decide +kernel
theorem dX0_proves_88 : decode cX0_proves 88 = .ok (.ior, 1) := by decide +kernel
theorem dX0_proves_89 : decode cX0_proves 89 = .ok (.istore_n 2, 1) := by decide +kernel
theorem dX0_proves_90 : decode cX0_proves 90 = .ok (.goto 26, 3) := by decide +kernel
theorem dX0_proves_93 : decode cX0_proves 93 = .ok (.iload_n 2, 1) := by decide +kernel
theorem dX0_proves_94 : decode cX0_proves 94 = .ok (.iconst 1, 1) := by decide +kernel
theorem dX0_proves_95 : decode cX0_proves 95 = .ok (.ishl, 1) := by decide +kernel
theorem dX0_proves_96 : decode cX0_proves 96 = .ok (.aload_n 0, 1) := by decide +kernel
theorem dX0_proves_97 : decode cX0_proves 97 = .ok (.getfield 15, 3) := by decide +kernel
theorem dX0_proves_100 : decode cX0_proves 100 = .ok (.iload_n 3, 1) := by decide +kernel
theorem dX0_proves_101 : decode cX0_proves 101 = .ok (.iaload, 1) := by decide +kernel
theorem dX0_proves_102 : decode cX0_proves 102 = .ok (.aload_n 1, 1) := by decide +kernel
theorem dX0_proves_103 : decode cX0_proves 103 = .ok (.invokestatic 41, 3) := by decide +kernel
theorem dX0_proves_106 : decode cX0_proves 106 = .ok (.ifCond .eq 7, 3) := by decide +kernel
theorem dX0_proves_109 : decode cX0_proves 109 = .ok (.iconst 1, 1) := by decide +kernel
theorem dX0_proves_110 : decode cX0_proves 110 = .ok (.goto 4, 3) := by decide +kernel
theorem dX0_proves_113 : decode cX0_proves 113 = .ok (.iconst 0, 1) := by decide +kernel
theorem dX0_proves_114 : decode cX0_proves 114 = .ok (.ior, 1) := by decide +kernel
theorem dX0_proves_115 : decode cX0_proves 115 = .ok (.istore_n 2, 1) := by decide +kernel
theorem dX0_proves_116 : decode cX0_proves 116 = .ok (.iinc 3 1, 3) := by decide +kernel
theorem dX0_proves_119 : decode cX0_proves 119 = .ok (.goto (-115), 3) := by decide +kernel
theorem dX0_proves_122 : decode cX0_proves 122 = .ok (.iload_n 2, 1) := by decide +kernel
theorem dX0_proves_123 : decode cX0_proves 123 = .ok (.iconst 1, 1) := by decide +kernel
theorem dX0_proves_124 : decode cX0_proves 124 = .ok (.iand, 1) := by decide +kernel
theorem dX0_proves_125 : decode cX0_proves 125 = .ok (.iconst 1, 1) := by decide +kernel
theorem dX0_proves_126 : decode cX0_proves 126 = .ok (.if_icmp .ne 7, 3) := by decide +kernel
theorem dX0_proves_129 : decode cX0_proves 129 = .ok (.iconst 1, 1) := by decide +kernel
theorem dX0_proves_130 : decode cX0_proves 130 = .ok (.goto 4, 3) := by decide +kernel
theorem dX0_proves_133 : decode cX0_proves 133 = .ok (.iconst 0, 1) := by decide +kernel
theorem dX0_proves_134 : decode cX0_proves 134 = .ok (.ireturn, 1) := by decide +kernel
theorem dX0_holds_0 : decode cX0_holds 0 = .ok (.aload_n 1, 1) := by decide +kernel
theorem dX0_holds_1 : decode cX0_holds 1 = .ok (.iload_n 0, 1) := by decide +kernel
theorem dX0_holds_2 : decode cX0_holds 2 = .ok (.bipush 7, 2) := by decide +kernel
theorem dX0_holds_4 : decode cX0_holds 4 = .ok (.iand, 1) := by decide +kernel
theorem dX0_holds_5 : decode cX0_holds 5 = .ok (.iaload, 1) := by decide +kernel
theorem dX0_holds_6 : decode cX0_holds 6 = .ok (.istore_n 2, 1) := by decide +kernel
theorem dX0_holds_7 : decode cX0_holds 7 = .ok (.iload_n 0, 1) := by decide +kernel
theorem dX0_holds_8 : decode cX0_holds 8 = .ok (.bipush 7, 2) := by decide +kernel
theorem dX0_holds_10 : decode cX0_holds 10 = .ok (.ishr, 1) := by decide +kernel
theorem dX0_holds_11 : decode cX0_holds 11 = .ok (.istore_n 3, 1) := by decide +kernel
theorem dX0_holds_12 : decode cX0_holds 12 = .ok (.iload_n 0, 1) := by decide +kernel
theorem dX0_holds_13 : decode cX0_holds 13 = .ok (.bipush 6, 2) := by decide +kernel
theorem dX0_holds_15 : decode cX0_holds 15 = .ok (.ishr, 1) := by decide +kernel
theorem dX0_holds_16 : decode cX0_holds 16 = .ok (.iconst 1, 1) := by decide +kernel
theorem dX0_holds_17 : decode cX0_holds 17 = .ok (.iand, 1) := by decide +kernel
theorem dX0_holds_18 : decode cX0_holds 18 = .ok (.iconst 1, 1) := by decide +kernel
theorem dX0_holds_19 : decode cX0_holds 19 = .ok (.if_icmp .ne 10, 3) := by decide +kernel
theorem dX0_holds_22 : decode cX0_holds 22 = .ok (.aload_n 1, 1) := by decide +kernel
theorem dX0_holds_23 : decode cX0_holds 23 = .ok (.iload_n 3, 1) := by decide +kernel
theorem dX0_holds_24 : decode cX0_holds 24 = .ok (.bipush 7, 2) := by decide +kernel
theorem dX0_holds_26 : decode cX0_holds 26 = .ok (.iand, 1) := by decide +kernel
theorem dX0_holds_27 : decode cX0_holds 27 = .ok (.iaload, 1) := by decide +kernel
theorem dX0_holds_28 : decode cX0_holds 28 = .ok (.istore_n 3, 1) := by decide +kernel
theorem dX0_holds_29 : decode cX0_holds 29 = .ok (.iload_n 2, 1) := by decide +kernel
theorem dX0_holds_30 : decode cX0_holds 30 = .ok (.iload_n 3, 1) := by decide +kernel
theorem dX0_holds_31 : decode cX0_holds 31 = .ok (.if_icmp .ge 7, 3) := by decide +kernel
theorem dX0_holds_34 : decode cX0_holds 34 = .ok (.iconst 1, 1) := by decide +kernel
theorem dX0_holds_35 : decode cX0_holds 35 = .ok (.goto 13, 3) := by decide +kernel
theorem dX0_holds_38 : decode cX0_holds 38 = .ok (.iload_n 2, 1) := by decide +kernel
theorem dX0_holds_39 : decode cX0_holds 39 = .ok (.iload_n 3, 1) := by decide +kernel
theorem dX0_holds_40 : decode cX0_holds 40 = .ok (.if_icmp .ne 7, 3) := by decide +kernel
theorem dX0_holds_43 : decode cX0_holds 43 = .ok (.iconst 2, 1) := by decide +kernel
theorem dX0_holds_44 : decode cX0_holds 44 = .ok (.goto 4, 3) := by decide +kernel
theorem dX0_holds_47 : decode cX0_holds 47 = .ok (.iconst 4, 1) := by decide +kernel
theorem dX0_holds_48 : decode cX0_holds 48 = .ok (.istore 4, 2) := by decide +kernel
theorem dX0_holds_50 : decode cX0_holds 50 = .ok (.iload_n 0, 1) := by decide +kernel
theorem dX0_holds_51 : decode cX0_holds 51 = .ok (.iconst 3, 1) := by decide +kernel
theorem dX0_holds_52 : decode cX0_holds 52 = .ok (.ishr, 1) := by decide +kernel
theorem dX0_holds_53 : decode cX0_holds 53 = .ok (.iload 4, 2) := by decide +kernel
theorem dX0_holds_55 : decode cX0_holds 55 = .ok (.iand, 1) := by decide +kernel
theorem dX0_holds_56 : decode cX0_holds 56 = .ok (.ifCond .eq 7, 3) := by decide +kernel
theorem dX0_holds_59 : decode cX0_holds 59 = .ok (.iconst 1, 1) := by decide +kernel
theorem dX0_holds_60 : decode cX0_holds 60 = .ok (.goto 4, 3) := by decide +kernel
theorem dX0_holds_63 : decode cX0_holds 63 = .ok (.iconst 0, 1) := by decide +kernel
theorem dX0_holds_64 : decode cX0_holds 64 = .ok (.ireturn, 1) := by decide +kernel
theorem dX1_init_0 : decode cX1_init 0 = .ok (.aload_n 0, 1) := by decide +kernel
theorem dX1_init_1 : decode cX1_init 1 = .ok (.invokespecial 3, 3) := by decide +kernel
theorem dX1_init_4 : decode cX1_init 4 = .ok (.aload_n 0, 1) := by decide +kernel
theorem dX1_init_5 : decode cX1_init 5 = .ok (.sipush 400, 3) := by decide +kernel
theorem dX1_init_8 : decode cX1_init 8 = .ok (.newarray .int, 2) := by decide +kernel
theorem dX1_init_10 : decode cX1_init 10 = .ok (.putfield 9, 3) := by decide +kernel
theorem dX1_init_13 : decode cX1_init 13 = .ok (.aload_n 0, 1) := by decide +kernel
theorem dX1_init_14 : decode cX1_init 14 = .ok (.sipush 400, 3) := by decide +kernel
theorem dX1_init_17 : decode cX1_init 17 = .ok (.newarray .int, 2) := by decide +kernel
theorem dX1_init_19 : decode cX1_init 19 = .ok (.putfield 15, 3) := by decide +kernel
theorem dX1_init_22 : decode cX1_init 22 = .ok (.aload_n 0, 1) := by decide +kernel
theorem dX1_init_23 : decode cX1_init 23 = .ok (.sipush 400, 3) := by decide +kernel
theorem dX1_init_26 : decode cX1_init 26 = .ok (.newarray .int, 2) := by decide +kernel
theorem dX1_init_28 : decode cX1_init 28 = .ok (.putfield 18, 3) := by decide +kernel
theorem dX1_init_31 : decode cX1_init 31 = .ok (.aload_n 0, 1) := by decide +kernel
theorem dX1_init_32 : decode cX1_init 32 = .ok (.sipush 400, 3) := by decide +kernel
theorem dX1_init_35 : decode cX1_init 35 = .ok (.newarray .int, 2) := by decide +kernel
theorem dX1_init_37 : decode cX1_init 37 = .ok (.putfield 21, 3) := by decide +kernel
theorem dX1_init_40 : decode cX1_init 40 = .ok (.aload_n 0, 1) := by decide +kernel
theorem dX1_init_41 : decode cX1_init 41 = .ok (.sipush 400, 3) := by decide +kernel
theorem dX1_init_44 : decode cX1_init 44 = .ok (.newarray .int, 2) := by decide +kernel
theorem dX1_init_46 : decode cX1_init 46 = .ok (.putfield 24, 3) := by decide +kernel
theorem dX1_init_49 : decode cX1_init 49 = .ok (.aload_n 0, 1) := by decide +kernel
theorem dX1_init_50 : decode cX1_init 50 = .ok (.sipush 400, 3) := by decide +kernel
theorem dX1_init_53 : decode cX1_init 53 = .ok (.newarray .int, 2) := by decide +kernel
theorem dX1_init_55 : decode cX1_init 55 = .ok (.putfield 27, 3) := by decide +kernel
theorem dX1_init_58 : decode cX1_init 58 = .ok (.aload_n 0, 1) := by decide +kernel
theorem dX1_init_59 : decode cX1_init 59 = .ok (.sipush 400, 3) := by decide +kernel
theorem dX1_init_62 : decode cX1_init 62 = .ok (.newarray .boolean, 2) := by decide +kernel
theorem dX1_init_64 : decode cX1_init 64 = .ok (.putfield 30, 3) := by decide +kernel
theorem dX1_init_67 : decode cX1_init 67 = .ok (.return_, 1) := by decide +kernel
theorem dX1_addLine_0 : decode cX1_addLine 0 = .ok (.aload_n 0, 1) := by decide +kernel
theorem dX1_addLine_1 : decode cX1_addLine 1 = .ok (.getfield 34, 3) := by decide +kernel
theorem dX1_addLine_4 : decode cX1_addLine 4 = .ok (.sipush 400, 3) := by decide +kernel
theorem dX1_addLine_7 : decode cX1_addLine 7 = .ok (.if_icmp .lt 4, 3) := by decide +kernel
theorem dX1_addLine_10 : decode cX1_addLine 10 = .ok (.return_, 1) := by decide +kernel
theorem dX1_addLine_11 : decode cX1_addLine 11 = .ok (.aload_n 0, 1) := by decide +kernel
theorem dX1_addLine_12 : decode cX1_addLine 12 = .ok (.getfield 9, 3) := by decide +kernel
theorem dX1_addLine_15 : decode cX1_addLine 15 = .ok (.aload_n 0, 1) := by decide +kernel
theorem dX1_addLine_16 : decode cX1_addLine 16 = .ok (.getfield 34, 3) := by decide +kernel
theorem dX1_addLine_19 : decode cX1_addLine 19 = .ok (.iload_n 1, 1) := by decide +kernel
theorem dX1_addLine_20 : decode cX1_addLine 20 = .ok (.iastore, 1) := by decide +kernel
theorem dX1_addLine_21 : decode cX1_addLine 21 = .ok (.aload_n 0, 1) := by decide +kernel
theorem dX1_addLine_22 : decode cX1_addLine 22 = .ok (.getfield 15, 3) := by decide +kernel
theorem dX1_addLine_25 : decode cX1_addLine 25 = .ok (.aload_n 0, 1) := by decide +kernel
theorem dX1_addLine_26 : decode cX1_addLine 26 = .ok (.getfield 34, 3) := by decide +kernel
theorem dX1_addLine_29 : decode cX1_addLine 29 = .ok (.iload_n 2, 1) := by decide +kernel
theorem dX1_addLine_30 : decode cX1_addLine 30 = .ok (.iastore, 1) := by decide +kernel
theorem dX1_addLine_31 : decode cX1_addLine 31 = .ok (.aload_n 0, 1) := by decide +kernel
theorem dX1_addLine_32 : decode cX1_addLine 32 = .ok (.getfield 18, 3) := by decide +kernel
theorem dX1_addLine_35 : decode cX1_addLine 35 = .ok (.aload_n 0, 1) := by decide +kernel
theorem dX1_addLine_36 : decode cX1_addLine 36 = .ok (.getfield 34, 3) := by decide +kernel
theorem dX1_addLine_39 : decode cX1_addLine 39 = .ok (.iload_n 3, 1) := by decide +kernel
theorem dX1_addLine_40 : decode cX1_addLine 40 = .ok (.iastore, 1) := by decide +kernel
theorem dX1_addLine_41 : decode cX1_addLine 41 = .ok (.aload_n 0, 1) := by decide +kernel
theorem dX1_addLine_42 : decode cX1_addLine 42 = .ok (.getfield 21, 3) := by decide +kernel
theorem dX1_addLine_45 : decode cX1_addLine 45 = .ok (.aload_n 0, 1) := by decide +kernel
theorem dX1_addLine_46 : decode cX1_addLine 46 = .ok (.getfield 34, 3) := by decide +kernel
theorem dX1_addLine_49 : decode cX1_addLine 49 = .ok (.iload 4, 2) := by decide +kernel
theorem dX1_addLine_51 : decode cX1_addLine 51 = .ok (.iastore, 1) := by decide +kernel
theorem dX1_addLine_52 : decode cX1_addLine 52 = .ok (.aload_n 0, 1) := by decide +kernel
theorem dX1_addLine_53 : decode cX1_addLine 53 = .ok (.getfield 24, 3) := by decide +kernel
theorem dX1_addLine_56 : decode cX1_addLine 56 = .ok (.aload_n 0, 1) := by decide +kernel
theorem dX1_addLine_57 : decode cX1_addLine 57 = .ok (.getfield 34, 3) := by decide +kernel
theorem dX1_addLine_60 : decode cX1_addLine 60 = .ok (.iload 5, 2) := by decide +kernel
theorem dX1_addLine_62 : decode cX1_addLine 62 = .ok (.iastore, 1) := by decide +kernel
theorem dX1_addLine_63 : decode cX1_addLine 63 = .ok (.aload_n 0, 1) := by decide +kernel
theorem dX1_addLine_64 : decode cX1_addLine 64 = .ok (.getfield 34, 3) := by decide +kernel
theorem dX1_addLine_67 : decode cX1_addLine 67 = .ok (.istore 6, 2) := by decide +kernel
theorem dX1_addLine_69 : decode cX1_addLine 69 = .ok (.iload 6, 2) := by decide +kernel
theorem dX1_addLine_71 : decode cX1_addLine 71 = .ok (.ifCond .le 43, 3) := by decide +kernel
theorem dX1_addLine_74 : decode cX1_addLine 74 = .ok (.aload_n 0, 1) := by decide +kernel
theorem dX1_addLine_75 : decode cX1_addLine 75 = .ok (.getfield 18, 3) := by decide +kernel
theorem dX1_addLine_78 : decode cX1_addLine 78 = .ok (.aload_n 0, 1) := by decide +kernel
theorem dX1_addLine_79 : decode cX1_addLine 79 = .ok (.getfield 27, 3) := by decide +kernel
theorem dX1_addLine_82 : decode cX1_addLine 82 = .ok (.iload 6, 2) := by decide +kernel
theorem dX1_addLine_84 : decode cX1_addLine 84 = .ok (.iconst 1, 1) := by decide +kernel
theorem dX1_addLine_85 : decode cX1_addLine 85 = .ok (.isub, 1) := by decide +kernel
theorem dX1_addLine_86 : decode cX1_addLine 86 = .ok (.iaload, 1) := by decide +kernel
theorem dX1_addLine_87 : decode cX1_addLine 87 = .ok (.iaload, 1) := by decide +kernel
theorem dX1_addLine_88 : decode cX1_addLine 88 = .ok (.iload_n 3, 1) := by decide +kernel
theorem dX1_addLine_89 : decode cX1_addLine 89 = .ok (.if_icmp .le 25, 3) := by decide +kernel
theorem dX1_addLine_92 : decode cX1_addLine 92 = .ok (.aload_n 0, 1) := by decide +kernel
theorem dX1_addLine_93 : decode cX1_addLine 93 = .ok (.getfield 27, 3) := by decide +kernel
theorem dX1_addLine_96 : decode cX1_addLine 96 = .ok (.iload 6, 2) := by decide +kernel
theorem dX1_addLine_98 : decode cX1_addLine 98 = .ok (.aload_n 0, 1) := by decide +kernel
theorem dX1_addLine_99 : decode cX1_addLine 99 = .ok (.getfield 27, 3) := by decide +kernel
theorem dX1_addLine_102 : decode cX1_addLine 102 = .ok (.iload 6, 2) := by decide +kernel
theorem dX1_addLine_104 : decode cX1_addLine 104 = .ok (.iconst 1, 1) := by decide +kernel
theorem dX1_addLine_105 : decode cX1_addLine 105 = .ok (.isub, 1) := by decide +kernel
theorem dX1_addLine_106 : decode cX1_addLine 106 = .ok (.iaload, 1) := by decide +kernel
theorem dX1_addLine_107 : decode cX1_addLine 107 = .ok (.iastore, 1) := by decide +kernel
theorem dX1_addLine_108 : decode cX1_addLine 108 = .ok (.iinc 6 (-1), 3) := by decide +kernel
theorem dX1_addLine_111 : decode cX1_addLine 111 = .ok (.goto (-42), 3) := by decide +kernel
theorem dX1_addLine_114 : decode cX1_addLine 114 = .ok (.aload_n 0, 1) := by decide +kernel
theorem dX1_addLine_115 : decode cX1_addLine 115 = .ok (.getfield 27, 3) := by decide +kernel
theorem dX1_addLine_118 : decode cX1_addLine 118 = .ok (.iload 6, 2) := by decide +kernel
theorem dX1_addLine_120 : decode cX1_addLine 120 = .ok (.aload_n 0, 1) := by decide +kernel
theorem dX1_addLine_121 : decode cX1_addLine 121 = .ok (.getfield 34, 3) := by decide +kernel
theorem dX1_addLine_124 : decode cX1_addLine 124 = .ok (.iastore, 1) := by decide +kernel
theorem dX1_addLine_125 : decode cX1_addLine 125 = .ok (.aload_n 0, 1) := by decide +kernel
theorem dX1_addLine_126 : decode cX1_addLine 126 = .ok (.dup, 1) := by decide +kernel
theorem dX1_addLine_127 : decode cX1_addLine 127 = .ok (.getfield 34, 3) := by decide +kernel
theorem dX1_addLine_130 : decode cX1_addLine 130 = .ok (.iconst 1, 1) := by decide +kernel
theorem dX1_addLine_131 : decode cX1_addLine 131 = .ok (.iadd, 1) := by decide +kernel
theorem dX1_addLine_132 : decode cX1_addLine 132 = .ok (.putfield 34, 3) := by decide +kernel
theorem dX1_addLine_135 : decode cX1_addLine 135 = .ok (.return_, 1) := by decide +kernel
theorem dX1_sumWith_0 : decode cX1_sumWith 0 = .ok (.iconst 0, 1) := by decide +kernel
theorem dX1_sumWith_1 : decode cX1_sumWith 1 = .ok (.istore 4, 2) := by decide +kernel
theorem dX1_sumWith_3 : decode cX1_sumWith 3 = .ok (.iconst 0, 1) := by decide +kernel
theorem dX1_sumWith_4 : decode cX1_sumWith 4 = .ok (.istore 5, 2) := by decide +kernel
theorem dX1_sumWith_6 : decode cX1_sumWith 6 = .ok (.iload 5, 2) := by decide +kernel
theorem dX1_sumWith_8 : decode cX1_sumWith 8 = .ok (.aload_n 0, 1) := by decide +kernel
theorem dX1_sumWith_9 : decode cX1_sumWith 9 = .ok (.getfield 34, 3) := by decide +kernel
theorem dX1_sumWith_12 : decode cX1_sumWith 12 = .ok (.if_icmp .ge 65, 3) := by decide +kernel
theorem dX1_sumWith_15 : decode cX1_sumWith 15 = .ok (.aload_n 0, 1) := by decide +kernel
theorem dX1_sumWith_16 : decode cX1_sumWith 16 = .ok (.iload 5, 2) := by decide +kernel
theorem dX1_sumWith_18 : decode cX1_sumWith 18 = .ok (.iload_n 1, 1) := by decide +kernel
theorem dX1_sumWith_19 : decode cX1_sumWith 19 = .ok (.iload_n 2, 1) := by decide +kernel
theorem dX1_sumWith_20 : decode cX1_sumWith 20 = .ok (.iload_n 3, 1) := by decide +kernel
theorem dX1_sumWith_21 : decode cX1_sumWith 21 = .ok (.invokevirtual 38, 3) := by decide +kernel
theorem dX1_sumWith_24 : decode cX1_sumWith 24 = .ok (.ifCond .eq 47, 3) := by decide +kernel
theorem dX1_sumWith_27 : decode cX1_sumWith 27 = .ok (.iload 4, 2) := by decide +kernel
theorem dX1_sumWith_29 : decode cX1_sumWith 29 = .ok (.aload_n 0, 1) := by decide +kernel
theorem dX1_sumWith_30 : decode cX1_sumWith 30 = .ok (.getfield 21, 3) := by decide +kernel
theorem dX1_sumWith_33 : decode cX1_sumWith 33 = .ok (.iload 5, 2) := by decide +kernel
theorem dX1_sumWith_35 : decode cX1_sumWith 35 = .ok (.iaload, 1) := by decide +kernel
theorem dX1_sumWith_36 : decode cX1_sumWith 36 = .ok (.ifCond .eq 14, 3) := by decide +kernel
theorem dX1_sumWith_39 : decode cX1_sumWith 39 = .ok (.aload_n 0, 1) := by decide +kernel
theorem dX1_sumWith_40 : decode cX1_sumWith 40 = .ok (.getfield 21, 3) := by decide +kernel
theorem dX1_sumWith_43 : decode cX1_sumWith 43 = .ok (.iload 5, 2) := by decide +kernel
theorem dX1_sumWith_45 : decode cX1_sumWith 45 = .ok (.iaload, 1) := by decide +kernel
theorem dX1_sumWith_46 : decode cX1_sumWith 46 = .ok (.iconst 3, 1) := by decide +kernel
theorem dX1_sumWith_47 : decode cX1_sumWith 47 = .ok (.if_icmp .ne 13, 3) := by decide +kernel
theorem dX1_sumWith_50 : decode cX1_sumWith 50 = .ok (.aload_n 0, 1) := by decide +kernel
theorem dX1_sumWith_51 : decode cX1_sumWith 51 = .ok (.getfield 24, 3) := by decide +kernel
theorem dX1_sumWith_54 : decode cX1_sumWith 54 = .ok (.iload 5, 2) := by decide +kernel
theorem dX1_sumWith_56 : decode cX1_sumWith 56 = .ok (.iaload, 1) := by decide +kernel
theorem dX1_sumWith_57 : decode cX1_sumWith 57 = .ok (.goto 11, 3) := by decide +kernel
theorem dX1_sumWith_60 : decode cX1_sumWith 60 = .ok (.aload_n 0, 1) := by decide +kernel
theorem dX1_sumWith_61 : decode cX1_sumWith 61 = .ok (.getfield 24, 3) := by decide +kernel
theorem dX1_sumWith_64 : decode cX1_sumWith 64 = .ok (.iload 5, 2) := by decide +kernel
theorem dX1_sumWith_66 : decode cX1_sumWith 66 = .ok (.iaload, 1) := by decide +kernel
theorem dX1_sumWith_67 : decode cX1_sumWith 67 = .ok (.ineg, 1) := by decide +kernel
theorem dX1_sumWith_68 : decode cX1_sumWith 68 = .ok (.iadd, 1) := by decide +kernel
theorem dX1_sumWith_69 : decode cX1_sumWith 69 = .ok (.istore 4, 2) := by decide +kernel
theorem dX1_sumWith_71 : decode cX1_sumWith 71 = .ok (.iinc 5 1, 3) := by decide +kernel
theorem dX1_sumWith_74 : decode cX1_sumWith 74 = .ok (.goto (-68), 3) := by decide +kernel
theorem dX1_sumWith_77 : decode cX1_sumWith 77 = .ok (.iload 4, 2) := by decide +kernel
theorem dX1_sumWith_79 : decode cX1_sumWith 79 = .ok (.ireturn, 1) := by decide +kernel
theorem dX1_isLine_0 : decode cX1_isLine 0 = .ok (.aload_n 0, 1) := by decide +kernel
theorem dX1_isLine_1 : decode cX1_isLine 1 = .ok (.getfield 9, 3) := by decide +kernel
theorem dX1_isLine_4 : decode cX1_isLine 4 = .ok (.iload_n 1, 1) := by decide +kernel
theorem dX1_isLine_5 : decode cX1_isLine 5 = .ok (.iaload, 1) := by decide +kernel
theorem dX1_isLine_6 : decode cX1_isLine 6 = .ok (.iload_n 2, 1) := by decide +kernel
theorem dX1_isLine_7 : decode cX1_isLine 7 = .ok (.if_icmp .ne 28, 3) := by decide +kernel
theorem dX1_isLine_10 : decode cX1_isLine 10 = .ok (.aload_n 0, 1) := by decide +kernel
theorem dX1_isLine_11 : decode cX1_isLine 11 = .ok (.getfield 15, 3) := by decide +kernel
theorem dX1_isLine_14 : decode cX1_isLine 14 = .ok (.iload_n 1, 1) := by decide +kernel
theorem dX1_isLine_15 : decode cX1_isLine 15 = .ok (.iaload, 1) := by decide +kernel
theorem dX1_isLine_16 : decode cX1_isLine 16 = .ok (.iload_n 3, 1) := by decide +kernel
theorem dX1_isLine_17 : decode cX1_isLine 17 = .ok (.if_icmp .ne 18, 3) := by decide +kernel
theorem dX1_isLine_20 : decode cX1_isLine 20 = .ok (.aload_n 0, 1) := by decide +kernel
theorem dX1_isLine_21 : decode cX1_isLine 21 = .ok (.getfield 18, 3) := by decide +kernel
theorem dX1_isLine_24 : decode cX1_isLine 24 = .ok (.iload_n 1, 1) := by decide +kernel
theorem dX1_isLine_25 : decode cX1_isLine 25 = .ok (.iaload, 1) := by decide +kernel
theorem dX1_isLine_26 : decode cX1_isLine 26 = .ok (.iload 4, 2) := by decide +kernel
theorem dX1_isLine_28 : decode cX1_isLine 28 = .ok (.if_icmp .gt 7, 3) := by decide +kernel
theorem dX1_isLine_31 : decode cX1_isLine 31 = .ok (.iconst 1, 1) := by decide +kernel
theorem dX1_isLine_32 : decode cX1_isLine 32 = .ok (.goto 4, 3) := by decide +kernel
theorem dX1_isLine_35 : decode cX1_isLine 35 = .ok (.iconst 0, 1) := by decide +kernel
theorem dX1_isLine_36 : decode cX1_isLine 36 = .ok (.ireturn, 1) := by decide +kernel
theorem dX1_twinPairs_0 : decode cX1_twinPairs 0 = .ok (.iconst 0, 1) := by decide +kernel
theorem dX1_twinPairs_1 : decode cX1_twinPairs 1 = .ok (.istore 4, 2) := by decide +kernel
theorem dX1_twinPairs_3 : decode cX1_twinPairs 3 = .ok (.iload 4, 2) := by decide +kernel
theorem dX1_twinPairs_5 : decode cX1_twinPairs 5 = .ok (.aload_n 0, 1) := by decide +kernel
theorem dX1_twinPairs_6 : decode cX1_twinPairs 6 = .ok (.getfield 34, 3) := by decide +kernel
theorem dX1_twinPairs_9 : decode cX1_twinPairs 9 = .ok (.if_icmp .ge 17, 3) := by decide +kernel
theorem dX1_twinPairs_12 : decode cX1_twinPairs 12 = .ok (.aload_n 0, 1) := by decide +kernel
theorem dX1_twinPairs_13 : decode cX1_twinPairs 13 = .ok (.getfield 30, 3) := by decide +kernel
theorem dX1_twinPairs_16 : decode cX1_twinPairs 16 = .ok (.iload 4, 2) := by decide +kernel
theorem dX1_twinPairs_18 : decode cX1_twinPairs 18 = .ok (.iconst 0, 1) := by decide +kernel
theorem dX1_twinPairs_19 : decode cX1_twinPairs 19 = .ok (.bastore, 1) := by decide +kernel
theorem dX1_twinPairs_20 : decode cX1_twinPairs 20 = .ok (.iinc 4 1, 3) := by decide +kernel
theorem dX1_twinPairs_23 : decode cX1_twinPairs 23 = .ok (.goto (-20), 3) := by decide +kernel
theorem dX1_twinPairs_26 : decode cX1_twinPairs 26 = .ok (.iconst 0, 1) := by decide +kernel
theorem dX1_twinPairs_27 : decode cX1_twinPairs 27 = .ok (.istore 4, 2) := by decide +kernel
theorem dX1_twinPairs_29 : decode cX1_twinPairs 29 = .ok (.iconst 0, 1) := by decide +kernel
theorem dX1_twinPairs_30 : decode cX1_twinPairs 30 = .ok (.istore 5, 2) := by decide +kernel
theorem dX1_twinPairs_32 : decode cX1_twinPairs 32 = .ok (.iload 5, 2) := by decide +kernel
theorem dX1_twinPairs_34 : decode cX1_twinPairs 34 = .ok (.aload_n 0, 1) := by decide +kernel
theorem dX1_twinPairs_35 : decode cX1_twinPairs 35 = .ok (.getfield 34, 3) := by decide +kernel
theorem dX1_twinPairs_38 : decode cX1_twinPairs 38 = .ok (.if_icmp .ge 44, 3) := by decide +kernel
theorem dX1_twinPairs_41 : decode cX1_twinPairs 41 = .ok (.aload_n 0, 1) := by decide +kernel
theorem dX1_twinPairs_42 : decode cX1_twinPairs 42 = .ok (.aload_n 0, 1) := by decide +kernel
theorem dX1_twinPairs_43 : decode cX1_twinPairs 43 = .ok (.getfield 27, 3) := by decide +kernel
theorem dX1_twinPairs_46 : decode cX1_twinPairs 46 = .ok (.iload 5, 2) := by decide +kernel
theorem dX1_twinPairs_48 : decode cX1_twinPairs 48 = .ok (.iaload, 1) := by decide +kernel
theorem dX1_twinPairs_49 : decode cX1_twinPairs 49 = .ok (.iload_n 1, 1) := by decide +kernel
theorem dX1_twinPairs_50 : decode cX1_twinPairs 50 = .ok (.iload_n 2, 1) := by decide +kernel
theorem dX1_twinPairs_51 : decode cX1_twinPairs 51 = .ok (.iload_n 3, 1) := by decide +kernel
theorem dX1_twinPairs_52 : decode cX1_twinPairs 52 = .ok (.invokevirtual 38, 3) := by decide +kernel
theorem dX1_twinPairs_55 : decode cX1_twinPairs 55 = .ok (.ifCond .eq 21, 3) := by decide +kernel
theorem dX1_twinPairs_58 : decode cX1_twinPairs 58 = .ok (.aload_n 0, 1) := by decide +kernel
theorem dX1_twinPairs_59 : decode cX1_twinPairs 59 = .ok (.aload_n 0, 1) := by decide +kernel
theorem dX1_twinPairs_60 : decode cX1_twinPairs 60 = .ok (.getfield 27, 3) := by decide +kernel
theorem dX1_twinPairs_63 : decode cX1_twinPairs 63 = .ok (.iload 5, 2) := by decide +kernel
theorem dX1_twinPairs_65 : decode cX1_twinPairs 65 = .ok (.iaload, 1) := by decide +kernel
theorem dX1_twinPairs_66 : decode cX1_twinPairs 66 = .ok (.iload_n 3, 1) := by decide +kernel
theorem dX1_twinPairs_67 : decode cX1_twinPairs 67 = .ok (.invokevirtual 42, 3) := by decide +kernel
theorem dX1_twinPairs_70 : decode cX1_twinPairs 70 = .ok (.ifCond .eq 6, 3) := by decide +kernel
theorem dX1_twinPairs_73 : decode cX1_twinPairs 73 = .ok (.iinc 4 1, 3) := by decide +kernel
theorem dX1_twinPairs_76 : decode cX1_twinPairs 76 = .ok (.iinc 5 1, 3) := by decide +kernel
theorem dX1_twinPairs_79 : decode cX1_twinPairs 79 = .ok (.goto (-47), 3) := by decide +kernel
theorem dX1_twinPairs_82 : decode cX1_twinPairs 82 = .ok (.iload 4, 2) := by decide +kernel
theorem dX1_twinPairs_84 : decode cX1_twinPairs 84 = .ok (.ireturn, 1) := by decide +kernel
theorem dX1_takeTwin_0 : decode cX1_takeTwin 0 = .ok (.iconst 0, 1) := by decide +kernel
theorem dX1_takeTwin_1 : decode cX1_takeTwin 1 = .ok (.istore_n 3, 1) := by decide +kernel
theorem dX1_takeTwin_2 : decode cX1_takeTwin 2 = .ok (.iload_n 3, 1) := by decide +kernel
theorem dX1_takeTwin_3 : decode cX1_takeTwin 3 = .ok (.aload_n 0, 1) := by decide +kernel
theorem dX1_takeTwin_4 : decode cX1_takeTwin 4 = .ok (.getfield 34, 3) := by decide +kernel
theorem dX1_takeTwin_7 : decode cX1_takeTwin 7 = .ok (.if_icmp .ge 69, 3) := by decide +kernel
theorem dX1_takeTwin_10 : decode cX1_takeTwin 10 = .ok (.aload_n 0, 1) := by decide +kernel
theorem dX1_takeTwin_11 : decode cX1_takeTwin 11 = .ok (.getfield 27, 3) := by decide +kernel
theorem dX1_takeTwin_14 : decode cX1_takeTwin 14 = .ok (.iload_n 3, 1) := by decide +kernel
theorem dX1_takeTwin_15 : decode cX1_takeTwin 15 = .ok (.iaload, 1) := by decide +kernel
theorem dX1_takeTwin_16 : decode cX1_takeTwin 16 = .ok (.istore 4, 2) := by decide +kernel
theorem dX1_takeTwin_18 : decode cX1_takeTwin 18 = .ok (.aload_n 0, 1) := by decide +kernel
theorem dX1_takeTwin_19 : decode cX1_takeTwin 19 = .ok (.getfield 30, 3) := by decide +kernel
theorem dX1_takeTwin_22 : decode cX1_takeTwin 22 = .ok (.iload 4, 2) := by decide +kernel
theorem dX1_takeTwin_24 : decode cX1_takeTwin 24 = .ok (.baload, 1) := by decide +kernel
theorem dX1_takeTwin_25 : decode cX1_takeTwin 25 = .ok (.ifCond .ne 45, 3) := by decide +kernel
theorem dX1_takeTwin_28 : decode cX1_takeTwin 28 = .ok (.aload_n 0, 1) := by decide +kernel
theorem dX1_takeTwin_29 : decode cX1_takeTwin 29 = .ok (.iload 4, 2) := by decide +kernel
theorem dX1_takeTwin_31 : decode cX1_takeTwin 31 = .ok (.aload_n 0, 1) := by decide +kernel
theorem dX1_takeTwin_32 : decode cX1_takeTwin 32 = .ok (.getfield 15, 3) := by decide +kernel
theorem dX1_takeTwin_35 : decode cX1_takeTwin 35 = .ok (.iload_n 1, 1) := by decide +kernel
theorem dX1_takeTwin_36 : decode cX1_takeTwin 36 = .ok (.iaload, 1) := by decide +kernel
theorem dX1_takeTwin_37 : decode cX1_takeTwin 37 = .ok (.aload_n 0, 1) := by decide +kernel
theorem dX1_takeTwin_38 : decode cX1_takeTwin 38 = .ok (.getfield 9, 3) := by decide +kernel
theorem dX1_takeTwin_41 : decode cX1_takeTwin 41 = .ok (.iload_n 1, 1) := by decide +kernel
theorem dX1_takeTwin_42 : decode cX1_takeTwin 42 = .ok (.iaload, 1) := by decide +kernel
theorem dX1_takeTwin_43 : decode cX1_takeTwin 43 = .ok (.iload_n 2, 1) := by decide +kernel
theorem dX1_takeTwin_44 : decode cX1_takeTwin 44 = .ok (.invokevirtual 38, 3) := by decide +kernel
theorem dX1_takeTwin_47 : decode cX1_takeTwin 47 = .ok (.ifCond .eq 23, 3) := by decide +kernel
theorem dX1_takeTwin_50 : decode cX1_takeTwin 50 = .ok (.aload_n 0, 1) := by decide +kernel
theorem dX1_takeTwin_51 : decode cX1_takeTwin 51 = .ok (.iload_n 1, 1) := by decide +kernel
theorem dX1_takeTwin_52 : decode cX1_takeTwin 52 = .ok (.iload 4, 2) := by decide +kernel
theorem dX1_takeTwin_54 : decode cX1_takeTwin 54 = .ok (.invokevirtual 46, 3) := by decide +kernel
theorem dX1_takeTwin_57 : decode cX1_takeTwin 57 = .ok (.ifCond .eq 13, 3) := by decide +kernel
theorem dX1_takeTwin_60 : decode cX1_takeTwin 60 = .ok (.aload_n 0, 1) := by decide +kernel
theorem dX1_takeTwin_61 : decode cX1_takeTwin 61 = .ok (.getfield 30, 3) := by decide +kernel
theorem dX1_takeTwin_64 : decode cX1_takeTwin 64 = .ok (.iload 4, 2) := by decide +kernel
theorem dX1_takeTwin_66 : decode cX1_takeTwin 66 = .ok (.iconst 1, 1) := by decide +kernel
theorem dX1_takeTwin_67 : decode cX1_takeTwin 67 = .ok (.bastore, 1) := by decide +kernel
theorem dX1_takeTwin_68 : decode cX1_takeTwin 68 = .ok (.iconst 1, 1) := by decide +kernel
theorem dX1_takeTwin_69 : decode cX1_takeTwin 69 = .ok (.ireturn, 1) := by decide +kernel
theorem dX1_takeTwin_70 : decode cX1_takeTwin 70 = .ok (.iinc 3 1, 3) := by decide +kernel
theorem dX1_takeTwin_73 : decode cX1_takeTwin 73 = .ok (.goto (-71), 3) := by decide +kernel
theorem dX1_takeTwin_76 : decode cX1_takeTwin 76 = .ok (.iconst 0, 1) := by decide +kernel
theorem dX1_takeTwin_77 : decode cX1_takeTwin 77 = .ok (.ireturn, 1) := by decide +kernel
theorem dX1_areTwins_0 : decode cX1_areTwins 0 = .ok (.aload_n 0, 1) := by decide +kernel
theorem dX1_areTwins_1 : decode cX1_areTwins 1 = .ok (.getfield 21, 3) := by decide +kernel
theorem dX1_areTwins_4 : decode cX1_areTwins 4 = .ok (.iload_n 1, 1) := by decide +kernel
theorem dX1_areTwins_5 : decode cX1_areTwins 5 = .ok (.iaload, 1) := by decide +kernel
theorem dX1_areTwins_6 : decode cX1_areTwins 6 = .ok (.iconst 1, 1) := by decide +kernel
theorem dX1_areTwins_7 : decode cX1_areTwins 7 = .ok (.ixor, 1) := by decide +kernel
theorem dX1_areTwins_8 : decode cX1_areTwins 8 = .ok (.aload_n 0, 1) := by decide +kernel
theorem dX1_areTwins_9 : decode cX1_areTwins 9 = .ok (.getfield 21, 3) := by decide +kernel
theorem dX1_areTwins_12 : decode cX1_areTwins 12 = .ok (.iload_n 2, 1) := by decide +kernel
theorem dX1_areTwins_13 : decode cX1_areTwins 13 = .ok (.iaload, 1) := by decide +kernel
theorem dX1_areTwins_14 : decode cX1_areTwins 14 = .ok (.if_icmp .ne 42, 3) := by decide +kernel
theorem dX1_areTwins_17 : decode cX1_areTwins 17 = .ok (.aload_n 0, 1) := by decide +kernel
theorem dX1_areTwins_18 : decode cX1_areTwins 18 = .ok (.getfield 24, 3) := by decide +kernel
theorem dX1_areTwins_21 : decode cX1_areTwins 21 = .ok (.iload_n 1, 1) := by decide +kernel
theorem dX1_areTwins_22 : decode cX1_areTwins 22 = .ok (.iaload, 1) := by decide +kernel
theorem dX1_areTwins_23 : decode cX1_areTwins 23 = .ok (.aload_n 0, 1) := by decide +kernel
theorem dX1_areTwins_24 : decode cX1_areTwins 24 = .ok (.getfield 24, 3) := by decide +kernel
theorem dX1_areTwins_27 : decode cX1_areTwins 27 = .ok (.iload_n 2, 1) := by decide +kernel
theorem dX1_areTwins_28 : decode cX1_areTwins 28 = .ok (.iaload, 1) := by decide +kernel
theorem dX1_areTwins_29 : decode cX1_areTwins 29 = .ok (.if_icmp .ne 27, 3) := by decide +kernel
theorem dX1_areTwins_32 : decode cX1_areTwins 32 = .ok (.aload_n 0, 1) := by decide +kernel
theorem dX1_areTwins_33 : decode cX1_areTwins 33 = .ok (.getfield 18, 3) := by decide +kernel
theorem dX1_areTwins_36 : decode cX1_areTwins 36 = .ok (.iload_n 1, 1) := by decide +kernel
theorem dX1_areTwins_37 : decode cX1_areTwins 37 = .ok (.iaload, 1) := by decide +kernel
theorem dX1_areTwins_38 : decode cX1_areTwins 38 = .ok (.aload_n 0, 1) := by decide +kernel
theorem dX1_areTwins_39 : decode cX1_areTwins 39 = .ok (.getfield 18, 3) := by decide +kernel
theorem dX1_areTwins_42 : decode cX1_areTwins 42 = .ok (.iload_n 2, 1) := by decide +kernel
theorem dX1_areTwins_43 : decode cX1_areTwins 43 = .ok (.iaload, 1) := by decide +kernel
theorem dX1_areTwins_44 : decode cX1_areTwins 44 = .ok (.isub, 1) := by decide +kernel
theorem dX1_areTwins_45 : decode cX1_areTwins 45 = .ok (.invokestatic 49, 3) := by decide +kernel
theorem dX1_areTwins_48 : decode cX1_areTwins 48 = .ok (.iconst 3, 1) := by decide +kernel
theorem dX1_areTwins_49 : decode cX1_areTwins 49 = .ok (.if_icmp .gt 7, 3) := by decide +kernel
theorem dX1_areTwins_52 : decode cX1_areTwins 52 = .ok (.iconst 1, 1) := by decide +kernel
theorem dX1_areTwins_53 : decode cX1_areTwins 53 = .ok (.goto 4, 3) := by decide +kernel
theorem dX1_areTwins_56 : decode cX1_areTwins 56 = .ok (.iconst 0, 1) := by decide +kernel
theorem dX1_areTwins_57 : decode cX1_areTwins 57 = .ok (.ireturn, 1) := by decide +kernel
theorem dX1_disorder_0 : decode cX1_disorder 0 = .ok (.iconst 0, 1) := by decide +kernel
theorem dX1_disorder_1 : decode cX1_disorder 1 = .ok (.istore_n 2, 1) := by decide +kernel
theorem dX1_disorder_2 : decode cX1_disorder 2 = .ok (.iconst 0, 1) := by decide +kernel
theorem dX1_disorder_3 : decode cX1_disorder 3 = .ok (.istore_n 3, 1) := by decide +kernel
theorem dX1_disorder_4 : decode cX1_disorder 4 = .ok (.iconst 0, 1) := by decide +kernel
theorem dX1_disorder_5 : decode cX1_disorder 5 = .ok (.istore 4, 2) := by decide +kernel
theorem dX1_disorder_7 : decode cX1_disorder 7 = .ok (.iload 4, 2) := by decide +kernel
theorem dX1_disorder_9 : decode cX1_disorder 9 = .ok (.aload_n 0, 1) := by decide +kernel
theorem dX1_disorder_10 : decode cX1_disorder 10 = .ok (.getfield 34, 3) := by decide +kernel
theorem dX1_disorder_13 : decode cX1_disorder 13 = .ok (.if_icmp .ge 47, 3) := by decide +kernel
theorem dX1_disorder_16 : decode cX1_disorder 16 = .ok (.aload_n 0, 1) := by decide +kernel
theorem dX1_disorder_17 : decode cX1_disorder 17 = .ok (.getfield 9, 3) := by decide +kernel
theorem dX1_disorder_20 : decode cX1_disorder 20 = .ok (.iload 4, 2) := by decide +kernel
theorem dX1_disorder_22 : decode cX1_disorder 22 = .ok (.iaload, 1) := by decide +kernel
theorem dX1_disorder_23 : decode cX1_disorder 23 = .ok (.iload_n 1, 1) := by decide +kernel
theorem dX1_disorder_24 : decode cX1_disorder 24 = .ok (.if_icmp .ne 30, 3) := by decide +kernel
theorem dX1_disorder_27 : decode cX1_disorder 27 = .ok (.iload_n 2, 1) := by decide +kernel
theorem dX1_disorder_28 : decode cX1_disorder 28 = .ok (.aload_n 0, 1) := by decide +kernel
theorem dX1_disorder_29 : decode cX1_disorder 29 = .ok (.getfield 18, 3) := by decide +kernel
theorem dX1_disorder_32 : decode cX1_disorder 32 = .ok (.iload 4, 2) := by decide +kernel
theorem dX1_disorder_34 : decode cX1_disorder 34 = .ok (.iaload, 1) := by decide +kernel
theorem dX1_disorder_35 : decode cX1_disorder 35 = .ok (.iload_n 3, 1) := by decide +kernel
theorem dX1_disorder_36 : decode cX1_disorder 36 = .ok (.if_icmp .ge 7, 3) := by decide +kernel
theorem dX1_disorder_39 : decode cX1_disorder 39 = .ok (.iconst 1, 1) := by decide +kernel
theorem dX1_disorder_40 : decode cX1_disorder 40 = .ok (.goto 4, 3) := by decide +kernel
theorem dX1_disorder_43 : decode cX1_disorder 43 = .ok (.iconst 0, 1) := by decide +kernel
theorem dX1_disorder_44 : decode cX1_disorder 44 = .ok (.iadd, 1) := by decide +kernel
theorem dX1_disorder_45 : decode cX1_disorder 45 = .ok (.istore_n 2, 1) := by decide +kernel
theorem dX1_disorder_46 : decode cX1_disorder 46 = .ok (.aload_n 0, 1) := by decide +kernel
theorem dX1_disorder_47 : decode cX1_disorder 47 = .ok (.getfield 18, 3) := by decide +kernel
theorem dX1_disorder_50 : decode cX1_disorder 50 = .ok (.iload 4, 2) := by decide +kernel
theorem dX1_disorder_52 : decode cX1_disorder 52 = .ok (.iaload, 1) := by decide +kernel
theorem dX1_disorder_53 : decode cX1_disorder 53 = .ok (.istore_n 3, 1) := by decide +kernel
theorem dX1_disorder_54 : decode cX1_disorder 54 = .ok (.iinc 4 1, 3) := by decide +kernel
theorem dX1_disorder_57 : decode cX1_disorder 57 = .ok (.goto (-50), 3) := by decide +kernel
theorem dX1_disorder_60 : decode cX1_disorder 60 = .ok (.iload_n 2, 1) := by decide +kernel
theorem dX1_disorder_61 : decode cX1_disorder 61 = .ok (.ireturn, 1) := by decide +kernel
theorem dX2_init_0 : decode cX2_init 0 = .ok (.aload_n 0, 1) := by decide +kernel
theorem dX2_init_1 : decode cX2_init 1 = .ok (.invokespecial 3, 3) := by decide +kernel
theorem dX2_init_4 : decode cX2_init 4 = .ok (.aload_n 0, 1) := by decide +kernel
theorem dX2_init_5 : decode cX2_init 5 = .ok (.bipush 8, 2) := by decide +kernel
theorem dX2_init_7 : decode cX2_init 7 = .ok (.newarray .int, 2) := by decide +kernel
theorem dX2_init_9 : decode cX2_init 9 = .ok (.putfield 9, 3) := by decide +kernel
theorem dX2_init_12 : decode cX2_init 12 = .ok (.aload_n 0, 1) := by decide +kernel
theorem dX2_init_13 : decode cX2_init 13 = .ok (.iconst 3, 1) := by decide +kernel
theorem dX2_init_14 : decode cX2_init 14 = .ok (.newarray .int, 2) := by decide +kernel
theorem dX2_init_16 : decode cX2_init 16 = .ok (.putfield 15, 3) := by decide +kernel
theorem dX2_init_19 : decode cX2_init 19 = .ok (.aload_n 0, 1) := by decide +kernel
theorem dX2_init_20 : decode cX2_init 20 = .ok (.iconst (-1), 1) := by decide +kernel
theorem dX2_init_21 : decode cX2_init 21 = .ok (.putfield 18, 3) := by decide +kernel
theorem dX2_init_24 : decode cX2_init 24 = .ok (.aload_n 0, 1) := by decide +kernel
theorem dX2_init_25 : decode cX2_init 25 = .ok (.iconst (-1), 1) := by decide +kernel
theorem dX2_init_26 : decode cX2_init 26 = .ok (.putfield 22, 3) := by decide +kernel
theorem dX2_init_29 : decode cX2_init 29 = .ok (.aload_n 0, 1) := by decide +kernel
theorem dX2_init_30 : decode cX2_init 30 = .ok (.iconst (-1), 1) := by decide +kernel
theorem dX2_init_31 : decode cX2_init 31 = .ok (.putfield 25, 3) := by decide +kernel
theorem dX2_init_34 : decode cX2_init 34 = .ok (.aload_n 0, 1) := by decide +kernel
theorem dX2_init_35 : decode cX2_init 35 = .ok (.iconst (-1), 1) := by decide +kernel
theorem dX2_init_36 : decode cX2_init 36 = .ok (.putfield 28, 3) := by decide +kernel
theorem dX2_init_39 : decode cX2_init 39 = .ok (.aload_n 0, 1) := by decide +kernel
theorem dX2_init_40 : decode cX2_init 40 = .ok (.iconst (-1), 1) := by decide +kernel
theorem dX2_init_41 : decode cX2_init 41 = .ok (.putfield 31, 3) := by decide +kernel
theorem dX2_init_44 : decode cX2_init 44 = .ok (.aload_n 0, 1) := by decide +kernel
theorem dX2_init_45 : decode cX2_init 45 = .ok (.iload_n 1, 1) := by decide +kernel
theorem dX2_init_46 : decode cX2_init 46 = .ok (.putfield 34, 3) := by decide +kernel
theorem dX2_init_49 : decode cX2_init 49 = .ok (.aload_n 0, 1) := by decide +kernel
theorem dX2_init_50 : decode cX2_init 50 = .ok (.aload_n 2, 1) := by decide +kernel
theorem dX2_init_51 : decode cX2_init 51 = .ok (.putfield 37, 3) := by decide +kernel
theorem dX2_init_54 : decode cX2_init 54 = .ok (.aload_n 0, 1) := by decide +kernel
theorem dX2_init_55 : decode cX2_init 55 = .ok (.aload_n 3, 1) := by decide +kernel
theorem dX2_init_56 : decode cX2_init 56 = .ok (.putfield 41, 3) := by decide +kernel
theorem dX2_init_59 : decode cX2_init 59 = .ok (.aload_n 0, 1) := by decide +kernel
theorem dX2_init_60 : decode cX2_init 60 = .ok (.aload 4, 2) := by decide +kernel
theorem dX2_init_62 : decode cX2_init 62 = .ok (.putfield 44, 3) := by decide +kernel
theorem dX2_init_65 : decode cX2_init 65 = .ok (.aload_n 0, 1) := by decide +kernel
theorem dX2_init_66 : decode cX2_init 66 = .ok (.getfield 15, 3) := by decide +kernel
theorem dX2_init_69 : decode cX2_init 69 = .ok (.iconst 0, 1) := by decide +kernel
theorem dX2_init_70 : decode cX2_init 70 = .ok (.iconst (-1), 1) := by decide +kernel
theorem dX2_init_71 : decode cX2_init 71 = .ok (.iastore, 1) := by decide +kernel
theorem dX2_init_72 : decode cX2_init 72 = .ok (.aload_n 0, 1) := by decide +kernel
theorem dX2_init_73 : decode cX2_init 73 = .ok (.getfield 15, 3) := by decide +kernel
theorem dX2_init_76 : decode cX2_init 76 = .ok (.iconst 1, 1) := by decide +kernel
theorem dX2_init_77 : decode cX2_init 77 = .ok (.iconst (-1), 1) := by decide +kernel
theorem dX2_init_78 : decode cX2_init 78 = .ok (.iastore, 1) := by decide +kernel
theorem dX2_init_79 : decode cX2_init 79 = .ok (.aload_n 0, 1) := by decide +kernel
theorem dX2_init_80 : decode cX2_init 80 = .ok (.getfield 15, 3) := by decide +kernel
theorem dX2_init_83 : decode cX2_init 83 = .ok (.iconst 2, 1) := by decide +kernel
theorem dX2_init_84 : decode cX2_init 84 = .ok (.iconst (-1), 1) := by decide +kernel
theorem dX2_init_85 : decode cX2_init 85 = .ok (.iastore, 1) := by decide +kernel
theorem dX2_init_86 : decode cX2_init 86 = .ok (.return_, 1) := by decide +kernel
theorem dX2_isOnBench_0 : decode cX2_isOnBench 0 = .ok (.aload_n 0, 1) := by decide +kernel
theorem dX2_isOnBench_1 : decode cX2_isOnBench 1 = .ok (.getfield 15, 3) := by decide +kernel
theorem dX2_isOnBench_4 : decode cX2_isOnBench 4 = .ok (.iconst 0, 1) := by decide +kernel
theorem dX2_isOnBench_5 : decode cX2_isOnBench 5 = .ok (.iaload, 1) := by decide +kernel
theorem dX2_isOnBench_6 : decode cX2_isOnBench 6 = .ok (.iload_n 1, 1) := by decide +kernel
theorem dX2_isOnBench_7 : decode cX2_isOnBench 7 = .ok (.if_icmp .eq 23, 3) := by decide +kernel
theorem dX2_isOnBench_10 : decode cX2_isOnBench 10 = .ok (.aload_n 0, 1) := by decide +kernel
theorem dX2_isOnBench_11 : decode cX2_isOnBench 11 = .ok (.getfield 15, 3) := by decide +kernel
theorem dX2_isOnBench_14 : decode cX2_isOnBench 14 = .ok (.iconst 1, 1) := by decide +kernel
theorem dX2_isOnBench_15 : decode cX2_isOnBench 15 = .ok (.iaload, 1) := by decide +kernel
theorem dX2_isOnBench_16 : decode cX2_isOnBench 16 = .ok (.iload_n 1, 1) := by decide +kernel
theorem dX2_isOnBench_17 : decode cX2_isOnBench 17 = .ok (.if_icmp .eq 13, 3) := by decide +kernel
theorem dX2_isOnBench_20 : decode cX2_isOnBench 20 = .ok (.aload_n 0, 1) := by decide +kernel
theorem dX2_isOnBench_21 : decode cX2_isOnBench 21 = .ok (.getfield 15, 3) := by decide +kernel
theorem dX2_isOnBench_24 : decode cX2_isOnBench 24 = .ok (.iconst 2, 1) := by decide +kernel
theorem dX2_isOnBench_25 : decode cX2_isOnBench 25 = .ok (.iaload, 1) := by decide +kernel
theorem dX2_isOnBench_26 : decode cX2_isOnBench 26 = .ok (.iload_n 1, 1) := by decide +kernel
theorem dX2_isOnBench_27 : decode cX2_isOnBench 27 = .ok (.if_icmp .ne 7, 3) := by decide +kernel
theorem dX2_isOnBench_30 : decode cX2_isOnBench 30 = .ok (.iconst 1, 1) := by decide +kernel
theorem dX2_isOnBench_31 : decode cX2_isOnBench 31 = .ok (.goto 4, 3) := by decide +kernel
theorem dX2_isOnBench_34 : decode cX2_isOnBench 34 = .ok (.iconst 0, 1) := by decide +kernel
theorem dX2_isOnBench_35 : decode cX2_isOnBench 35 = .ok (.ireturn, 1) := by decide +kernel
theorem dX2_costsBy_0 : decode cX2_costsBy 0 = .ok (.aload_n 0, 1) := by decide +kernel
theorem dX2_costsBy_1 : decode cX2_costsBy 1 = .ok (.getfield 48, 3) := by decide +kernel
theorem dX2_costsBy_4 : decode cX2_costsBy 4 = .ok (.aload_n 1, 1) := by decide +kernel
theorem dX2_costsBy_5 : decode cX2_costsBy 5 = .ok (.getfield 51, 3) := by decide +kernel
theorem dX2_costsBy_8 : decode cX2_costsBy 8 = .ok (.bipush 10, 2) := by decide +kernel
theorem dX2_costsBy_10 : decode cX2_costsBy 10 = .ok (.iaload, 1) := by decide +kernel
theorem dX2_costsBy_11 : decode cX2_costsBy 11 = .ok (.imul, 1) := by decide +kernel
theorem dX2_costsBy_12 : decode cX2_costsBy 12 = .ok (.aload_n 1, 1) := by decide +kernel
theorem dX2_costsBy_13 : decode cX2_costsBy 13 = .ok (.getfield 51, 3) := by decide +kernel
theorem dX2_costsBy_16 : decode cX2_costsBy 16 = .ok (.bipush 11, 2) := by decide +kernel
theorem dX2_costsBy_18 : decode cX2_costsBy 18 = .ok (.iaload, 1) := by decide +kernel
theorem dX2_costsBy_19 : decode cX2_costsBy 19 = .ok (.iadd, 1) := by decide +kernel
theorem dX2_costsBy_20 : decode cX2_costsBy 20 = .ok (.istore_n 3, 1) := by decide +kernel
theorem dX2_costsBy_21 : decode cX2_costsBy 21 = .ok (.iload_n 2, 1) := by decide +kernel
theorem dX2_costsBy_22 : decode cX2_costsBy 22 = .ok (.ifCond .eq 15, 3) := by decide +kernel
theorem dX2_costsBy_25 : decode cX2_costsBy 25 = .ok (.iload_n 3, 1) := by decide +kernel
theorem dX2_costsBy_26 : decode cX2_costsBy 26 = .ok (.aload_n 1, 1) := by decide +kernel
theorem dX2_costsBy_27 : decode cX2_costsBy 27 = .ok (.getfield 51, 3) := by decide +kernel
theorem dX2_costsBy_30 : decode cX2_costsBy 30 = .ok (.bipush 12, 2) := by decide +kernel
theorem dX2_costsBy_32 : decode cX2_costsBy 32 = .ok (.iaload, 1) := by decide +kernel
theorem dX2_costsBy_33 : decode cX2_costsBy 33 = .ok (.iadd, 1) := by decide +kernel
theorem dX2_costsBy_34 : decode cX2_costsBy 34 = .ok (.goto 4, 3) := by decide +kernel
theorem dX2_costsBy_37 : decode cX2_costsBy 37 = .ok (.iload_n 3, 1) := by decide +kernel
theorem dX2_costsBy_38 : decode cX2_costsBy 38 = .ok (.ireturn, 1) := by decide +kernel
theorem dX2_isOpen_0 : decode cX2_isOpen 0 = .ok (.aload_n 0, 1) := by decide +kernel
theorem dX2_isOpen_1 : decode cX2_isOpen 1 = .ok (.aload_n 1, 1) := by decide +kernel
theorem dX2_isOpen_2 : decode cX2_isOpen 2 = .ok (.iload_n 2, 1) := by decide +kernel
theorem dX2_isOpen_3 : decode cX2_isOpen 3 = .ok (.iload_n 2, 1) := by decide +kernel
theorem dX2_isOpen_4 : decode cX2_isOpen 4 = .ok (.invokevirtual 56, 3) := by decide +kernel
theorem dX2_isOpen_7 : decode cX2_isOpen 7 = .ok (.ifCond .le 7, 3) := by decide +kernel
theorem dX2_isOpen_10 : decode cX2_isOpen 10 = .ok (.iconst 1, 1) := by decide +kernel
theorem dX2_isOpen_11 : decode cX2_isOpen 11 = .ok (.goto 4, 3) := by decide +kernel
theorem dX2_isOpen_14 : decode cX2_isOpen 14 = .ok (.iconst 0, 1) := by decide +kernel
theorem dX2_isOpen_15 : decode cX2_isOpen 15 = .ok (.ireturn, 1) := by decide +kernel
theorem dX2_stateOn_0 : decode cX2_stateOn 0 = .ok (.aload_n 0, 1) := by decide +kernel
theorem dX2_stateOn_1 : decode cX2_stateOn 1 = .ok (.getfield 25, 3) := by decide +kernel
theorem dX2_stateOn_4 : decode cX2_stateOn 4 = .ok (.iload_n 2, 1) := by decide +kernel
theorem dX2_stateOn_5 : decode cX2_stateOn 5 = .ok (.invokestatic 60, 3) := by decide +kernel
theorem dX2_stateOn_8 : decode cX2_stateOn 8 = .ok (.ifCond .ne 9, 3) := by decide +kernel
theorem dX2_stateOn_11 : decode cX2_stateOn 11 = .ok (.aload_n 0, 1) := by decide +kernel
theorem dX2_stateOn_12 : decode cX2_stateOn 12 = .ok (.iload_n 2, 1) := by decide +kernel
theorem dX2_stateOn_13 : decode cX2_stateOn 13 = .ok (.invokevirtual 64, 3) := by decide +kernel
theorem dX2_stateOn_16 : decode cX2_stateOn 16 = .ok (.ireturn, 1) := by decide +kernel
theorem dX2_stateOn_17 : decode cX2_stateOn 17 = .ok (.aload_n 0, 1) := by decide +kernel
theorem dX2_stateOn_18 : decode cX2_stateOn 18 = .ok (.getfield 31, 3) := by decide +kernel
theorem dX2_stateOn_21 : decode cX2_stateOn 21 = .ok (.iload_n 2, 1) := by decide +kernel
theorem dX2_stateOn_22 : decode cX2_stateOn 22 = .ok (.invokestatic 60, 3) := by decide +kernel
theorem dX2_stateOn_25 : decode cX2_stateOn 25 = .ok (.ifCond .eq 6, 3) := by decide +kernel
theorem dX2_stateOn_28 : decode cX2_stateOn 28 = .ok (.bipush 8, 2) := by decide +kernel
theorem dX2_stateOn_30 : decode cX2_stateOn 30 = .ok (.ireturn, 1) := by decide +kernel
theorem dX2_stateOn_31 : decode cX2_stateOn 31 = .ok (.aload_n 0, 1) := by decide +kernel
theorem dX2_stateOn_32 : decode cX2_stateOn 32 = .ok (.aload_n 1, 1) := by decide +kernel
theorem dX2_stateOn_33 : decode cX2_stateOn 33 = .ok (.iload_n 2, 1) := by decide +kernel
theorem dX2_stateOn_34 : decode cX2_stateOn 34 = .ok (.iload_n 3, 1) := by decide +kernel
theorem dX2_stateOn_35 : decode cX2_stateOn 35 = .ok (.invokevirtual 56, 3) := by decide +kernel
theorem dX2_stateOn_38 : decode cX2_stateOn 38 = .ok (.ifCond .ne 6, 3) := by decide +kernel
theorem dX2_stateOn_41 : decode cX2_stateOn 41 = .ok (.bipush 7, 2) := by decide +kernel
theorem dX2_stateOn_43 : decode cX2_stateOn 43 = .ok (.ireturn, 1) := by decide +kernel
theorem dX2_stateOn_44 : decode cX2_stateOn 44 = .ok (.aload_n 0, 1) := by decide +kernel
theorem dX2_stateOn_45 : decode cX2_stateOn 45 = .ok (.aload_n 1, 1) := by decide +kernel
theorem dX2_stateOn_46 : decode cX2_stateOn 46 = .ok (.iload_n 2, 1) := by decide +kernel
theorem dX2_stateOn_47 : decode cX2_stateOn 47 = .ok (.iload_n 3, 1) := by decide +kernel
theorem dX2_stateOn_48 : decode cX2_stateOn 48 = .ok (.invokevirtual 68, 3) := by decide +kernel
theorem dX2_stateOn_51 : decode cX2_stateOn 51 = .ok (.istore 4, 2) := by decide +kernel
theorem dX2_stateOn_53 : decode cX2_stateOn 53 = .ok (.iload 4, 2) := by decide +kernel
theorem dX2_stateOn_55 : decode cX2_stateOn 55 = .ok (.aload_n 0, 1) := by decide +kernel
theorem dX2_stateOn_56 : decode cX2_stateOn 56 = .ok (.getfield 44, 3) := by decide +kernel
theorem dX2_stateOn_59 : decode cX2_stateOn 59 = .ok (.getfield 51, 3) := by decide +kernel
theorem dX2_stateOn_62 : decode cX2_stateOn 62 = .ok (.iconst 5, 1) := by decide +kernel
theorem dX2_stateOn_63 : decode cX2_stateOn 63 = .ok (.iaload, 1) := by decide +kernel
theorem dX2_stateOn_64 : decode cX2_stateOn 64 = .ok (.if_icmp .ge 5, 3) := by decide +kernel
theorem dX2_stateOn_67 : decode cX2_stateOn 67 = .ok (.iconst 4, 1) := by decide +kernel
theorem dX2_stateOn_68 : decode cX2_stateOn 68 = .ok (.ireturn, 1) := by decide +kernel
theorem dX2_stateOn_69 : decode cX2_stateOn 69 = .ok (.iload 4, 2) := by decide +kernel
theorem dX2_stateOn_71 : decode cX2_stateOn 71 = .ok (.aload_n 0, 1) := by decide +kernel
theorem dX2_stateOn_72 : decode cX2_stateOn 72 = .ok (.getfield 44, 3) := by decide +kernel
theorem dX2_stateOn_75 : decode cX2_stateOn 75 = .ok (.getfield 51, 3) := by decide +kernel
theorem dX2_stateOn_78 : decode cX2_stateOn 78 = .ok (.bipush 6, 2) := by decide +kernel
theorem dX2_stateOn_80 : decode cX2_stateOn 80 = .ok (.iaload, 1) := by decide +kernel
theorem dX2_stateOn_81 : decode cX2_stateOn 81 = .ok (.if_icmp .ge 7, 3) := by decide +kernel
theorem dX2_stateOn_84 : decode cX2_stateOn 84 = .ok (.iconst 5, 1) := by decide +kernel
theorem dX2_stateOn_85 : decode cX2_stateOn 85 = .ok (.goto 5, 3) := by decide +kernel
theorem dX2_stateOn_88 : decode cX2_stateOn 88 = .ok (.bipush 6, 2) := by decide +kernel
theorem dX2_stateOn_90 : decode cX2_stateOn 90 = .ok (.ireturn, 1) := by decide +kernel
theorem dX2_stateAheadOfOrder_0 : decode cX2_stateAheadOfOrder 0 = .ok (.aload_n 0, 1) := by decide +kernel
theorem dX2_stateAheadOfOrder_1 : decode cX2_stateAheadOfOrder 1 = .ok (.getfield 22, 3) := by decide +kernel
theorem dX2_stateAheadOfOrder_4 : decode cX2_stateAheadOfOrder 4 = .ok (.iload_n 1, 1) := by decide +kernel
theorem dX2_stateAheadOfOrder_5 : decode cX2_stateAheadOfOrder 5 = .ok (.invokestatic 60, 3) := by decide +kernel
theorem dX2_stateAheadOfOrder_8 : decode cX2_stateAheadOfOrder 8 = .ok (.ifCond .eq 17, 3) := by decide +kernel
theorem dX2_stateAheadOfOrder_11 : decode cX2_stateAheadOfOrder 11 = .ok (.aload_n 0, 1) := by decide +kernel
theorem dX2_stateAheadOfOrder_12 : decode cX2_stateAheadOfOrder 12 = .ok (.getfield 71, 3) := by decide +kernel
theorem dX2_stateAheadOfOrder_15 : decode cX2_stateAheadOfOrder 15 = .ok (.iconst 5, 1) := by decide +kernel
theorem dX2_stateAheadOfOrder_16 : decode cX2_stateAheadOfOrder 16 = .ok (.if_icmp .ne 7, 3) := by decide +kernel
theorem dX2_stateAheadOfOrder_19 : decode cX2_stateAheadOfOrder 19 = .ok (.iconst 3, 1) := by decide +kernel
theorem dX2_stateAheadOfOrder_20 : decode cX2_stateAheadOfOrder 20 = .ok (.goto 4, 3) := by decide +kernel
theorem dX2_stateAheadOfOrder_23 : decode cX2_stateAheadOfOrder 23 = .ok (.iconst 2, 1) := by decide +kernel
theorem dX2_stateAheadOfOrder_24 : decode cX2_stateAheadOfOrder 24 = .ok (.ireturn, 1) := by decide +kernel
theorem dX2_stateAheadOfOrder_25 : decode cX2_stateAheadOfOrder 25 = .ok (.aload_n 0, 1) := by decide +kernel
theorem dX2_stateAheadOfOrder_26 : decode cX2_stateAheadOfOrder 26 = .ok (.getfield 18, 3) := by decide +kernel
theorem dX2_stateAheadOfOrder_29 : decode cX2_stateAheadOfOrder 29 = .ok (.iload_n 1, 1) := by decide +kernel
theorem dX2_stateAheadOfOrder_30 : decode cX2_stateAheadOfOrder 30 = .ok (.invokestatic 60, 3) := by decide +kernel
theorem dX2_stateAheadOfOrder_33 : decode cX2_stateAheadOfOrder 33 = .ok (.ifCond .eq 7, 3) := by decide +kernel
theorem dX2_stateAheadOfOrder_36 : decode cX2_stateAheadOfOrder 36 = .ok (.iconst 1, 1) := by decide +kernel
theorem dX2_stateAheadOfOrder_37 : decode cX2_stateAheadOfOrder 37 = .ok (.goto 4, 3) := by decide +kernel
theorem dX2_stateAheadOfOrder_40 : decode cX2_stateAheadOfOrder 40 = .ok (.iconst 0, 1) := by decide +kernel
theorem dX2_stateAheadOfOrder_41 : decode cX2_stateAheadOfOrder 41 = .ok (.ireturn, 1) := by decide +kernel
theorem dX2_restOn_0 : decode cX2_restOn 0 = .ok (.aload_n 0, 1) := by decide +kernel
theorem dX2_restOn_1 : decode cX2_restOn 1 = .ok (.getfield 31, 3) := by decide +kernel
theorem dX2_restOn_4 : decode cX2_restOn 4 = .ok (.iload_n 2, 1) := by decide +kernel
theorem dX2_restOn_5 : decode cX2_restOn 5 = .ok (.invokestatic 60, 3) := by decide +kernel
theorem dX2_restOn_8 : decode cX2_restOn 8 = .ok (.ifCond .eq 7, 3) := by decide +kernel
theorem dX2_restOn_11 : decode cX2_restOn 11 = .ok (.iconst 0, 1) := by decide +kernel
theorem dX2_restOn_12 : decode cX2_restOn 12 = .ok (.goto 14, 3) := by decide +kernel
theorem dX2_restOn_15 : decode cX2_restOn 15 = .ok (.iconst 0, 1) := by decide +kernel
theorem dX2_restOn_16 : decode cX2_restOn 16 = .ok (.aload_n 0, 1) := by decide +kernel
theorem dX2_restOn_17 : decode cX2_restOn 17 = .ok (.aload_n 1, 1) := by decide +kernel
theorem dX2_restOn_18 : decode cX2_restOn 18 = .ok (.iload_n 2, 1) := by decide +kernel
theorem dX2_restOn_19 : decode cX2_restOn 19 = .ok (.iload_n 3, 1) := by decide +kernel
theorem dX2_restOn_20 : decode cX2_restOn 20 = .ok (.invokevirtual 74, 3) := by decide +kernel
theorem dX2_restOn_23 : decode cX2_restOn 23 = .ok (.invokestatic 77, 3) := by decide +kernel
theorem dX2_restOn_26 : decode cX2_restOn 26 = .ok (.ireturn, 1) := by decide +kernel
theorem dX2_overOn_0 : decode cX2_overOn 0 = .ok (.aload_n 0, 1) := by decide +kernel
theorem dX2_overOn_1 : decode cX2_overOn 1 = .ok (.getfield 31, 3) := by decide +kernel
theorem dX2_overOn_4 : decode cX2_overOn 4 = .ok (.iload_n 2, 1) := by decide +kernel
theorem dX2_overOn_5 : decode cX2_overOn 5 = .ok (.invokestatic 60, 3) := by decide +kernel
theorem dX2_overOn_8 : decode cX2_overOn 8 = .ok (.ifCond .eq 7, 3) := by decide +kernel
theorem dX2_overOn_11 : decode cX2_overOn 11 = .ok (.iconst 0, 1) := by decide +kernel
theorem dX2_overOn_12 : decode cX2_overOn 12 = .ok (.goto 15, 3) := by decide +kernel
theorem dX2_overOn_15 : decode cX2_overOn 15 = .ok (.iconst 0, 1) := by decide +kernel
theorem dX2_overOn_16 : decode cX2_overOn 16 = .ok (.aload_n 0, 1) := by decide +kernel
theorem dX2_overOn_17 : decode cX2_overOn 17 = .ok (.aload_n 1, 1) := by decide +kernel
theorem dX2_overOn_18 : decode cX2_overOn 18 = .ok (.iload_n 2, 1) := by decide +kernel
theorem dX2_overOn_19 : decode cX2_overOn 19 = .ok (.iload_n 3, 1) := by decide +kernel
theorem dX2_overOn_20 : decode cX2_overOn 20 = .ok (.invokevirtual 74, 3) := by decide +kernel
theorem dX2_overOn_23 : decode cX2_overOn 23 = .ok (.ineg, 1) := by decide +kernel
theorem dX2_overOn_24 : decode cX2_overOn 24 = .ok (.invokestatic 77, 3) := by decide +kernel
theorem dX2_overOn_27 : decode cX2_overOn 27 = .ok (.ireturn, 1) := by decide +kernel
theorem dX2_missedOn_0 : decode cX2_missedOn 0 = .ok (.aload_n 0, 1) := by decide +kernel
theorem dX2_missedOn_1 : decode cX2_missedOn 1 = .ok (.getfield 25, 3) := by decide +kernel
theorem dX2_missedOn_4 : decode cX2_missedOn 4 = .ok (.iload_n 2, 1) := by decide +kernel
theorem dX2_missedOn_5 : decode cX2_missedOn 5 = .ok (.invokestatic 60, 3) := by decide +kernel
theorem dX2_missedOn_8 : decode cX2_missedOn 8 = .ok (.ifCond .eq 14, 3) := by decide +kernel
theorem dX2_missedOn_11 : decode cX2_missedOn 11 = .ok (.aload_n 0, 1) := by decide +kernel
theorem dX2_missedOn_12 : decode cX2_missedOn 12 = .ok (.getfield 31, 3) := by decide +kernel
theorem dX2_missedOn_15 : decode cX2_missedOn 15 = .ok (.iload_n 2, 1) := by decide +kernel
theorem dX2_missedOn_16 : decode cX2_missedOn 16 = .ok (.invokestatic 60, 3) := by decide +kernel
theorem dX2_missedOn_19 : decode cX2_missedOn 19 = .ok (.ifCond .eq 5, 3) := by decide +kernel
theorem dX2_missedOn_22 : decode cX2_missedOn 22 = .ok (.iconst 0, 1) := by decide +kernel
theorem dX2_missedOn_23 : decode cX2_missedOn 23 = .ok (.ireturn, 1) := by decide +kernel
theorem dX2_missedOn_24 : decode cX2_missedOn 24 = .ok (.aload_n 0, 1) := by decide +kernel
theorem dX2_missedOn_25 : decode cX2_missedOn 25 = .ok (.iload_n 2, 1) := by decide +kernel
theorem dX2_missedOn_26 : decode cX2_missedOn 26 = .ok (.invokevirtual 83, 3) := by decide +kernel
theorem dX2_missedOn_29 : decode cX2_missedOn 29 = .ok (.aload_n 0, 1) := by decide +kernel
theorem dX2_missedOn_30 : decode cX2_missedOn 30 = .ok (.getfield 86, 3) := by decide +kernel
theorem dX2_missedOn_33 : decode cX2_missedOn 33 = .ok (.iload_n 2, 1) := by decide +kernel
theorem dX2_missedOn_34 : decode cX2_missedOn 34 = .ok (.aload_n 0, 1) := by decide +kernel
theorem dX2_missedOn_35 : decode cX2_missedOn 35 = .ok (.getfield 25, 3) := by decide +kernel
theorem dX2_missedOn_38 : decode cX2_missedOn 38 = .ok (.isub, 1) := by decide +kernel
theorem dX2_missedOn_39 : decode cX2_missedOn 39 = .ok (.bipush 7, 2) := by decide +kernel
theorem dX2_missedOn_41 : decode cX2_missedOn 41 = .ok (.idiv, 1) := by decide +kernel
theorem dX2_missedOn_42 : decode cX2_missedOn 42 = .ok (.imul, 1) := by decide +kernel
theorem dX2_missedOn_43 : decode cX2_missedOn 43 = .ok (.invokestatic 89, 3) := by decide +kernel
theorem dX2_missedOn_46 : decode cX2_missedOn 46 = .ok (.istore 4, 2) := by decide +kernel
theorem dX2_missedOn_48 : decode cX2_missedOn 48 = .ok (.iload 4, 2) := by decide +kernel
theorem dX2_missedOn_50 : decode cX2_missedOn 50 = .ok (.aload_n 0, 1) := by decide +kernel
theorem dX2_missedOn_51 : decode cX2_missedOn 51 = .ok (.aload_n 1, 1) := by decide +kernel
theorem dX2_missedOn_52 : decode cX2_missedOn 52 = .ok (.iload_n 2, 1) := by decide +kernel
theorem dX2_missedOn_53 : decode cX2_missedOn 53 = .ok (.iload_n 3, 1) := by decide +kernel
theorem dX2_missedOn_54 : decode cX2_missedOn 54 = .ok (.invokevirtual 92, 3) := by decide +kernel
theorem dX2_missedOn_57 : decode cX2_missedOn 57 = .ok (.isub, 1) := by decide +kernel
theorem dX2_missedOn_58 : decode cX2_missedOn 58 = .ok (.aload_n 0, 1) := by decide +kernel
theorem dX2_missedOn_59 : decode cX2_missedOn 59 = .ok (.getfield 86, 3) := by decide +kernel
theorem dX2_missedOn_62 : decode cX2_missedOn 62 = .ok (.invokestatic 95, 3) := by decide +kernel
theorem dX2_missedOn_65 : decode cX2_missedOn 65 = .ok (.ireturn, 1) := by decide +kernel
theorem dX2_balanceOn_0 : decode cX2_balanceOn 0 = .ok (.aload_n 0, 1) := by decide +kernel
theorem dX2_balanceOn_1 : decode cX2_balanceOn 1 = .ok (.getfield 25, 3) := by decide +kernel
theorem dX2_balanceOn_4 : decode cX2_balanceOn 4 = .ok (.iload_n 2, 1) := by decide +kernel
theorem dX2_balanceOn_5 : decode cX2_balanceOn 5 = .ok (.invokestatic 60, 3) := by decide +kernel
theorem dX2_balanceOn_8 : decode cX2_balanceOn 8 = .ok (.ifCond .eq 19, 3) := by decide +kernel
theorem dX2_balanceOn_11 : decode cX2_balanceOn 11 = .ok (.aload_n 0, 1) := by decide +kernel
theorem dX2_balanceOn_12 : decode cX2_balanceOn 12 = .ok (.iload_n 2, 1) := by decide +kernel
theorem dX2_balanceOn_13 : decode cX2_balanceOn 13 = .ok (.invokevirtual 83, 3) := by decide +kernel
theorem dX2_balanceOn_16 : decode cX2_balanceOn 16 = .ok (.aload_n 0, 1) := by decide +kernel
theorem dX2_balanceOn_17 : decode cX2_balanceOn 17 = .ok (.aload_n 1, 1) := by decide +kernel
theorem dX2_balanceOn_18 : decode cX2_balanceOn 18 = .ok (.iload_n 2, 1) := by decide +kernel
theorem dX2_balanceOn_19 : decode cX2_balanceOn 19 = .ok (.iload_n 3, 1) := by decide +kernel
theorem dX2_balanceOn_20 : decode cX2_balanceOn 20 = .ok (.invokevirtual 92, 3) := by decide +kernel
theorem dX2_balanceOn_23 : decode cX2_balanceOn 23 = .ok (.isub, 1) := by decide +kernel
theorem dX2_balanceOn_24 : decode cX2_balanceOn 24 = .ok (.goto 4, 3) := by decide +kernel
theorem dX2_balanceOn_27 : decode cX2_balanceOn 27 = .ok (.iconst 0, 1) := by decide +kernel
theorem dX2_balanceOn_28 : decode cX2_balanceOn 28 = .ok (.ireturn, 1) := by decide +kernel
theorem dX2_paidOn_0 : decode cX2_paidOn 0 = .ok (.aload_n 0, 1) := by decide +kernel
theorem dX2_paidOn_1 : decode cX2_paidOn 1 = .ok (.getfield 28, 3) := by decide +kernel
theorem dX2_paidOn_4 : decode cX2_paidOn 4 = .ok (.iload_n 2, 1) := by decide +kernel
theorem dX2_paidOn_5 : decode cX2_paidOn 5 = .ok (.invokestatic 60, 3) := by decide +kernel
theorem dX2_paidOn_8 : decode cX2_paidOn 8 = .ok (.ifCond .eq 10, 3) := by decide +kernel
theorem dX2_paidOn_11 : decode cX2_paidOn 11 = .ok (.aload_n 0, 1) := by decide +kernel
theorem dX2_paidOn_12 : decode cX2_paidOn 12 = .ok (.getfield 98, 3) := by decide +kernel
theorem dX2_paidOn_15 : decode cX2_paidOn 15 = .ok (.goto 4, 3) := by decide +kernel
theorem dX2_paidOn_18 : decode cX2_paidOn 18 = .ok (.iconst 0, 1) := by decide +kernel
theorem dX2_paidOn_19 : decode cX2_paidOn 19 = .ok (.istore 4, 2) := by decide +kernel
theorem dX2_paidOn_21 : decode cX2_paidOn 21 = .ok (.aload_n 0, 1) := by decide +kernel
theorem dX2_paidOn_22 : decode cX2_paidOn 22 = .ok (.getfield 25, 3) := by decide +kernel
theorem dX2_paidOn_25 : decode cX2_paidOn 25 = .ok (.iload_n 2, 1) := by decide +kernel
theorem dX2_paidOn_26 : decode cX2_paidOn 26 = .ok (.invokestatic 60, 3) := by decide +kernel
theorem dX2_paidOn_29 : decode cX2_paidOn 29 = .ok (.ifCond .eq 19, 3) := by decide +kernel
theorem dX2_paidOn_32 : decode cX2_paidOn 32 = .ok (.aload_n 1, 1) := by decide +kernel
theorem dX2_paidOn_33 : decode cX2_paidOn 33 = .ok (.aload_n 0, 1) := by decide +kernel
theorem dX2_paidOn_34 : decode cX2_paidOn 34 = .ok (.getfield 34, 3) := by decide +kernel
theorem dX2_paidOn_37 : decode cX2_paidOn 37 = .ok (.iload_n 2, 1) := by decide +kernel
theorem dX2_paidOn_38 : decode cX2_paidOn 38 = .ok (.iload_n 3, 1) := by decide +kernel
theorem dX2_paidOn_39 : decode cX2_paidOn 39 = .ok (.invokevirtual 101, 3) := by decide +kernel
theorem dX2_paidOn_42 : decode cX2_paidOn 42 = .ok (.iload 4, 2) := by decide +kernel
theorem dX2_paidOn_44 : decode cX2_paidOn 44 = .ok (.iadd, 1) := by decide +kernel
theorem dX2_paidOn_45 : decode cX2_paidOn 45 = .ok (.goto 4, 3) := by decide +kernel
theorem dX2_paidOn_48 : decode cX2_paidOn 48 = .ok (.iconst 0, 1) := by decide +kernel
theorem dX2_paidOn_49 : decode cX2_paidOn 49 = .ok (.ireturn, 1) := by decide +kernel
theorem dX2_owedOn_0 : decode cX2_owedOn 0 = .ok (.aload_n 0, 1) := by decide +kernel
theorem dX2_owedOn_1 : decode cX2_owedOn 1 = .ok (.getfield 28, 3) := by decide +kernel
theorem dX2_owedOn_4 : decode cX2_owedOn 4 = .ok (.iload_n 1, 1) := by decide +kernel
theorem dX2_owedOn_5 : decode cX2_owedOn 5 = .ok (.invokestatic 60, 3) := by decide +kernel
theorem dX2_owedOn_8 : decode cX2_owedOn 8 = .ok (.ifCond .eq 21, 3) := by decide +kernel
theorem dX2_owedOn_11 : decode cX2_owedOn 11 = .ok (.aload_n 0, 1) := by decide +kernel
theorem dX2_owedOn_12 : decode cX2_owedOn 12 = .ok (.getfield 107, 3) := by decide +kernel
theorem dX2_owedOn_15 : decode cX2_owedOn 15 = .ok (.aload_n 0, 1) := by decide +kernel
theorem dX2_owedOn_16 : decode cX2_owedOn 16 = .ok (.getfield 44, 3) := by decide +kernel
theorem dX2_owedOn_19 : decode cX2_owedOn 19 = .ok (.getfield 51, 3) := by decide +kernel
theorem dX2_owedOn_22 : decode cX2_owedOn 22 = .ok (.bipush 13, 2) := by decide +kernel
theorem dX2_owedOn_24 : decode cX2_owedOn 24 = .ok (.iaload, 1) := by decide +kernel
theorem dX2_owedOn_25 : decode cX2_owedOn 25 = .ok (.iadd, 1) := by decide +kernel
theorem dX2_owedOn_26 : decode cX2_owedOn 26 = .ok (.goto 7, 3) := by decide +kernel
theorem dX2_owedOn_29 : decode cX2_owedOn 29 = .ok (.aload_n 0, 1) := by decide +kernel
theorem dX2_owedOn_30 : decode cX2_owedOn 30 = .ok (.getfield 107, 3) := by decide +kernel
theorem dX2_owedOn_33 : decode cX2_owedOn 33 = .ok (.ireturn, 1) := by decide +kernel
theorem dX2_isDone_0 : decode cX2_isDone 0 = .ok (.iload_n 0, 1) := by decide +kernel
theorem dX2_isDone_1 : decode cX2_isDone 1 = .ok (.iconst (-1), 1) := by decide +kernel
theorem dX2_isDone_2 : decode cX2_isDone 2 = .ok (.if_icmp .eq 12, 3) := by decide +kernel
theorem dX2_isDone_5 : decode cX2_isDone 5 = .ok (.iload_n 0, 1) := by decide +kernel
theorem dX2_isDone_6 : decode cX2_isDone 6 = .ok (.iload_n 1, 1) := by decide +kernel
theorem dX2_isDone_7 : decode cX2_isDone 7 = .ok (.if_icmp .gt 7, 3) := by decide +kernel
theorem dX2_isDone_10 : decode cX2_isDone 10 = .ok (.iconst 1, 1) := by decide +kernel
theorem dX2_isDone_11 : decode cX2_isDone 11 = .ok (.goto 4, 3) := by decide +kernel
theorem dX2_isDone_14 : decode cX2_isDone 14 = .ok (.iconst 0, 1) := by decide +kernel
theorem dX2_isDone_15 : decode cX2_isDone 15 = .ok (.ireturn, 1) := by decide +kernel
theorem dX3_init_0 : decode cX3_init 0 = .ok (.aload_n 0, 1) := by decide +kernel
theorem dX3_init_1 : decode cX3_init 1 = .ok (.invokespecial 3, 3) := by decide +kernel
theorem dX3_init_4 : decode cX3_init 4 = .ok (.aload_n 0, 1) := by decide +kernel
theorem dX3_init_5 : decode cX3_init 5 = .ok (.sipush 600, 3) := by decide +kernel
theorem dX3_init_8 : decode cX3_init 8 = .ok (.newarray .int, 2) := by decide +kernel
theorem dX3_init_10 : decode cX3_init 10 = .ok (.putfield 9, 3) := by decide +kernel
theorem dX3_init_13 : decode cX3_init 13 = .ok (.aload_n 0, 1) := by decide +kernel
theorem dX3_init_14 : decode cX3_init 14 = .ok (.sipush 600, 3) := by decide +kernel
theorem dX3_init_17 : decode cX3_init 17 = .ok (.newarray .int, 2) := by decide +kernel
theorem dX3_init_19 : decode cX3_init 19 = .ok (.putfield 15, 3) := by decide +kernel
theorem dX3_init_22 : decode cX3_init 22 = .ok (.aload_n 0, 1) := by decide +kernel
theorem dX3_init_23 : decode cX3_init 23 = .ok (.sipush 600, 3) := by decide +kernel
theorem dX3_init_26 : decode cX3_init 26 = .ok (.newarray .int, 2) := by decide +kernel
theorem dX3_init_28 : decode cX3_init 28 = .ok (.putfield 18, 3) := by decide +kernel
theorem dX3_init_31 : decode cX3_init 31 = .ok (.aload_n 0, 1) := by decide +kernel
theorem dX3_init_32 : decode cX3_init 32 = .ok (.sipush 600, 3) := by decide +kernel
theorem dX3_init_35 : decode cX3_init 35 = .ok (.newarray .int, 2) := by decide +kernel
theorem dX3_init_37 : decode cX3_init 37 = .ok (.putfield 21, 3) := by decide +kernel
theorem dX3_init_40 : decode cX3_init 40 = .ok (.aload_n 0, 1) := by decide +kernel
theorem dX3_init_41 : decode cX3_init 41 = .ok (.sipush 600, 3) := by decide +kernel
theorem dX3_init_44 : decode cX3_init 44 = .ok (.newarray .int, 2) := by decide +kernel
theorem dX3_init_46 : decode cX3_init 46 = .ok (.putfield 24, 3) := by decide +kernel
theorem dX3_init_49 : decode cX3_init 49 = .ok (.return_, 1) := by decide +kernel
theorem dX3_addPayment_0 : decode cX3_addPayment 0 = .ok (.aload_n 0, 1) := by decide +kernel
theorem dX3_addPayment_1 : decode cX3_addPayment 1 = .ok (.getfield 27, 3) := by decide +kernel
theorem dX3_addPayment_4 : decode cX3_addPayment 4 = .ok (.sipush 600, 3) := by decide +kernel
theorem dX3_addPayment_7 : decode cX3_addPayment 7 = .ok (.if_icmp .lt 5, 3) := by decide +kernel
theorem dX3_addPayment_10 : decode cX3_addPayment 10 = .ok (.iconst (-1), 1) := by decide +kernel
theorem dX3_addPayment_11 : decode cX3_addPayment 11 = .ok (.ireturn, 1) := by decide +kernel
theorem dX3_addPayment_12 : decode cX3_addPayment 12 = .ok (.aload_n 0, 1) := by decide +kernel
theorem dX3_addPayment_13 : decode cX3_addPayment 13 = .ok (.getfield 15, 3) := by decide +kernel
theorem dX3_addPayment_16 : decode cX3_addPayment 16 = .ok (.aload_n 0, 1) := by decide +kernel
theorem dX3_addPayment_17 : decode cX3_addPayment 17 = .ok (.getfield 27, 3) := by decide +kernel
theorem dX3_addPayment_20 : decode cX3_addPayment 20 = .ok (.iload_n 1, 1) := by decide +kernel
theorem dX3_addPayment_21 : decode cX3_addPayment 21 = .ok (.iastore, 1) := by decide +kernel
theorem dX3_addPayment_22 : decode cX3_addPayment 22 = .ok (.aload_n 0, 1) := by decide +kernel
theorem dX3_addPayment_23 : decode cX3_addPayment 23 = .ok (.getfield 18, 3) := by decide +kernel
theorem dX3_addPayment_26 : decode cX3_addPayment 26 = .ok (.aload_n 0, 1) := by decide +kernel
theorem dX3_addPayment_27 : decode cX3_addPayment 27 = .ok (.getfield 27, 3) := by decide +kernel
theorem dX3_addPayment_30 : decode cX3_addPayment 30 = .ok (.iload_n 2, 1) := by decide +kernel
theorem dX3_addPayment_31 : decode cX3_addPayment 31 = .ok (.iastore, 1) := by decide +kernel
theorem dX3_addPayment_32 : decode cX3_addPayment 32 = .ok (.aload_n 0, 1) := by decide +kernel
theorem dX3_addPayment_33 : decode cX3_addPayment 33 = .ok (.getfield 21, 3) := by decide +kernel
theorem dX3_addPayment_36 : decode cX3_addPayment 36 = .ok (.aload_n 0, 1) := by decide +kernel
theorem dX3_addPayment_37 : decode cX3_addPayment 37 = .ok (.getfield 27, 3) := by decide +kernel
theorem dX3_addPayment_40 : decode cX3_addPayment 40 = .ok (.iload_n 3, 1) := by decide +kernel
theorem dX3_addPayment_41 : decode cX3_addPayment 41 = .ok (.iastore, 1) := by decide +kernel
theorem dX3_addPayment_42 : decode cX3_addPayment 42 = .ok (.aload_n 0, 1) := by decide +kernel
theorem dX3_addPayment_43 : decode cX3_addPayment 43 = .ok (.getfield 24, 3) := by decide +kernel
theorem dX3_addPayment_46 : decode cX3_addPayment 46 = .ok (.aload_n 0, 1) := by decide +kernel
theorem dX3_addPayment_47 : decode cX3_addPayment 47 = .ok (.getfield 27, 3) := by decide +kernel
theorem dX3_addPayment_50 : decode cX3_addPayment 50 = .ok (.iload 4, 2) := by decide +kernel
theorem dX3_addPayment_52 : decode cX3_addPayment 52 = .ok (.iastore, 1) := by decide +kernel
theorem dX3_addPayment_53 : decode cX3_addPayment 53 = .ok (.aload_n 0, 1) := by decide +kernel
theorem dX3_addPayment_54 : decode cX3_addPayment 54 = .ok (.getfield 9, 3) := by decide +kernel
theorem dX3_addPayment_57 : decode cX3_addPayment 57 = .ok (.aload_n 0, 1) := by decide +kernel
theorem dX3_addPayment_58 : decode cX3_addPayment 58 = .ok (.getfield 27, 3) := by decide +kernel
theorem dX3_addPayment_61 : decode cX3_addPayment 61 = .ok (.iconst (-1), 1) := by decide +kernel
theorem dX3_addPayment_62 : decode cX3_addPayment 62 = .ok (.iastore, 1) := by decide +kernel
theorem dX3_addPayment_63 : decode cX3_addPayment 63 = .ok (.aload_n 0, 1) := by decide +kernel
theorem dX3_addPayment_64 : decode cX3_addPayment 64 = .ok (.dup, 1) := by decide +kernel
theorem dX3_addPayment_65 : decode cX3_addPayment 65 = .ok (.getfield 27, 3) := by decide +kernel
theorem dX3_addPayment_68 : decode cX3_addPayment 68 = .ok (.iconst 1, 1) := by decide +kernel
theorem dX3_addPayment_69 : decode cX3_addPayment 69 = .ok (.iadd, 1) := by decide +kernel
theorem dX3_addPayment_70 : decode cX3_addPayment 70 = .ok (.putfield 27, 3) := by decide +kernel
theorem dX3_addPayment_73 : decode cX3_addPayment 73 = .ok (.aload_n 0, 1) := by decide +kernel
theorem dX3_addPayment_74 : decode cX3_addPayment 74 = .ok (.getfield 27, 3) := by decide +kernel
theorem dX3_addPayment_77 : decode cX3_addPayment 77 = .ok (.iconst 1, 1) := by decide +kernel
theorem dX3_addPayment_78 : decode cX3_addPayment 78 = .ok (.isub, 1) := by decide +kernel
theorem dX3_addPayment_79 : decode cX3_addPayment 79 = .ok (.ireturn, 1) := by decide +kernel
theorem dX3_sumFor_0 : decode cX3_sumFor 0 = .ok (.iconst 0, 1) := by decide +kernel
theorem dX3_sumFor_1 : decode cX3_sumFor 1 = .ok (.istore 4, 2) := by decide +kernel
theorem dX3_sumFor_3 : decode cX3_sumFor 3 = .ok (.iconst 0, 1) := by decide +kernel
theorem dX3_sumFor_4 : decode cX3_sumFor 4 = .ok (.istore 5, 2) := by decide +kernel
theorem dX3_sumFor_6 : decode cX3_sumFor 6 = .ok (.iload 5, 2) := by decide +kernel
theorem dX3_sumFor_8 : decode cX3_sumFor 8 = .ok (.aload_n 0, 1) := by decide +kernel
theorem dX3_sumFor_9 : decode cX3_sumFor 9 = .ok (.getfield 27, 3) := by decide +kernel
theorem dX3_sumFor_12 : decode cX3_sumFor 12 = .ok (.if_icmp .ge 88, 3) := by decide +kernel
theorem dX3_sumFor_15 : decode cX3_sumFor 15 = .ok (.aload_n 0, 1) := by decide +kernel
theorem dX3_sumFor_16 : decode cX3_sumFor 16 = .ok (.getfield 9, 3) := by decide +kernel
theorem dX3_sumFor_19 : decode cX3_sumFor 19 = .ok (.iload 5, 2) := by decide +kernel
theorem dX3_sumFor_21 : decode cX3_sumFor 21 = .ok (.iaload, 1) := by decide +kernel
theorem dX3_sumFor_22 : decode cX3_sumFor 22 = .ok (.iconst (-1), 1) := by decide +kernel
theorem dX3_sumFor_23 : decode cX3_sumFor 23 = .ok (.if_icmp .eq 18, 3) := by decide +kernel
theorem dX3_sumFor_26 : decode cX3_sumFor 26 = .ok (.aload_n 0, 1) := by decide +kernel
theorem dX3_sumFor_27 : decode cX3_sumFor 27 = .ok (.getfield 9, 3) := by decide +kernel
theorem dX3_sumFor_30 : decode cX3_sumFor 30 = .ok (.iload 5, 2) := by decide +kernel
theorem dX3_sumFor_32 : decode cX3_sumFor 32 = .ok (.iaload, 1) := by decide +kernel
theorem dX3_sumFor_33 : decode cX3_sumFor 33 = .ok (.iload_n 3, 1) := by decide +kernel
theorem dX3_sumFor_34 : decode cX3_sumFor 34 = .ok (.if_icmp .gt 7, 3) := by decide +kernel
theorem dX3_sumFor_37 : decode cX3_sumFor 37 = .ok (.iconst 1, 1) := by decide +kernel
theorem dX3_sumFor_38 : decode cX3_sumFor 38 = .ok (.goto 4, 3) := by decide +kernel
theorem dX3_sumFor_41 : decode cX3_sumFor 41 = .ok (.iconst 0, 1) := by decide +kernel
theorem dX3_sumFor_42 : decode cX3_sumFor 42 = .ok (.istore 6, 2) := by decide +kernel
theorem dX3_sumFor_44 : decode cX3_sumFor 44 = .ok (.aload_n 0, 1) := by decide +kernel
theorem dX3_sumFor_45 : decode cX3_sumFor 45 = .ok (.getfield 15, 3) := by decide +kernel
theorem dX3_sumFor_48 : decode cX3_sumFor 48 = .ok (.iload 5, 2) := by decide +kernel
theorem dX3_sumFor_50 : decode cX3_sumFor 50 = .ok (.iaload, 1) := by decide +kernel
theorem dX3_sumFor_51 : decode cX3_sumFor 51 = .ok (.iload_n 1, 1) := by decide +kernel
theorem dX3_sumFor_52 : decode cX3_sumFor 52 = .ok (.if_icmp .ne 42, 3) := by decide +kernel
theorem dX3_sumFor_55 : decode cX3_sumFor 55 = .ok (.aload_n 0, 1) := by decide +kernel
theorem dX3_sumFor_56 : decode cX3_sumFor 56 = .ok (.getfield 18, 3) := by decide +kernel
theorem dX3_sumFor_59 : decode cX3_sumFor 59 = .ok (.iload 5, 2) := by decide +kernel
theorem dX3_sumFor_61 : decode cX3_sumFor 61 = .ok (.iaload, 1) := by decide +kernel
theorem dX3_sumFor_62 : decode cX3_sumFor 62 = .ok (.iload_n 2, 1) := by decide +kernel
theorem dX3_sumFor_63 : decode cX3_sumFor 63 = .ok (.if_icmp .gt 31, 3) := by decide +kernel
theorem dX3_sumFor_66 : decode cX3_sumFor 66 = .ok (.aload_n 0, 1) := by decide +kernel
theorem dX3_sumFor_67 : decode cX3_sumFor 67 = .ok (.getfield 21, 3) := by decide +kernel
theorem dX3_sumFor_70 : decode cX3_sumFor 70 = .ok (.iload 5, 2) := by decide +kernel
theorem dX3_sumFor_72 : decode cX3_sumFor 72 = .ok (.iaload, 1) := by decide +kernel
theorem dX3_sumFor_73 : decode cX3_sumFor 73 = .ok (.iload_n 3, 1) := by decide +kernel
theorem dX3_sumFor_74 : decode cX3_sumFor 74 = .ok (.if_icmp .gt 20, 3) := by decide +kernel
theorem dX3_sumFor_77 : decode cX3_sumFor 77 = .ok (.iload 6, 2) := by decide +kernel
theorem dX3_sumFor_79 : decode cX3_sumFor 79 = .ok (.ifCond .ne 15, 3) := by decide +kernel
theorem dX3_sumFor_82 : decode cX3_sumFor 82 = .ok (.iload 4, 2) := by decide +kernel
theorem dX3_sumFor_84 : decode cX3_sumFor 84 = .ok (.aload_n 0, 1) := by decide +kernel
theorem dX3_sumFor_85 : decode cX3_sumFor 85 = .ok (.getfield 24, 3) := by decide +kernel
theorem dX3_sumFor_88 : decode cX3_sumFor 88 = .ok (.iload 5, 2) := by decide +kernel
theorem dX3_sumFor_90 : decode cX3_sumFor 90 = .ok (.iaload, 1) := by decide +kernel
theorem dX3_sumFor_91 : decode cX3_sumFor 91 = .ok (.iadd, 1) := by decide +kernel
theorem dX3_sumFor_92 : decode cX3_sumFor 92 = .ok (.istore 4, 2) := by decide +kernel
theorem dX3_sumFor_94 : decode cX3_sumFor 94 = .ok (.iinc 5 1, 3) := by decide +kernel
theorem dX3_sumFor_97 : decode cX3_sumFor 97 = .ok (.goto (-91), 3) := by decide +kernel
theorem dX3_sumFor_100 : decode cX3_sumFor 100 = .ok (.iload 4, 2) := by decide +kernel
theorem dX3_sumFor_102 : decode cX3_sumFor 102 = .ok (.ireturn, 1) := by decide +kernel
theorem dX4_init_0 : decode cX4_init 0 = .ok (.aload_n 0, 1) := by decide +kernel
theorem dX4_init_1 : decode cX4_init 1 = .ok (.invokespecial 3, 3) := by decide +kernel
theorem dX4_init_4 : decode cX4_init 4 = .ok (.aload_n 0, 1) := by decide +kernel
theorem dX4_init_5 : decode cX4_init 5 = .ok (.iload_n 1, 1) := by decide +kernel
theorem dX4_init_6 : decode cX4_init 6 = .ok (.putfield 9, 3) := by decide +kernel
theorem dX4_init_9 : decode cX4_init 9 = .ok (.aload_n 0, 1) := by decide +kernel
theorem dX4_init_10 : decode cX4_init 10 = .ok (.iload_n 2, 1) := by decide +kernel
theorem dX4_init_11 : decode cX4_init 11 = .ok (.putfield 15, 3) := by decide +kernel
theorem dX4_init_14 : decode cX4_init 14 = .ok (.aload_n 0, 1) := by decide +kernel
theorem dX4_init_15 : decode cX4_init 15 = .ok (.iload_n 3, 1) := by decide +kernel
theorem dX4_init_16 : decode cX4_init 16 = .ok (.putfield 18, 3) := by decide +kernel
theorem dX4_init_19 : decode cX4_init 19 = .ok (.return_, 1) := by decide +kernel
theorem dX4_tell_0 : decode cX4_tell 0 = .ok (.aload_n 0, 1) := by decide +kernel
theorem dX4_tell_1 : decode cX4_tell 1 = .ok (.iload_n 1, 1) := by decide +kernel
theorem dX4_tell_2 : decode cX4_tell 2 = .ok (.putfield 21, 3) := by decide +kernel
theorem dX4_tell_5 : decode cX4_tell 5 = .ok (.aload_n 0, 1) := by decide +kernel
theorem dX4_tell_6 : decode cX4_tell 6 = .ok (.iload_n 2, 1) := by decide +kernel
theorem dX4_tell_7 : decode cX4_tell 7 = .ok (.putfield 24, 3) := by decide +kernel
theorem dX4_tell_10 : decode cX4_tell 10 = .ok (.aload_n 0, 1) := by decide +kernel
theorem dX4_tell_11 : decode cX4_tell 11 = .ok (.iload_n 3, 1) := by decide +kernel
theorem dX4_tell_12 : decode cX4_tell 12 = .ok (.putfield 27, 3) := by decide +kernel
theorem dX4_tell_15 : decode cX4_tell 15 = .ok (.aload_n 0, 1) := by decide +kernel
theorem dX4_tell_16 : decode cX4_tell 16 = .ok (.iload 4, 2) := by decide +kernel
theorem dX4_tell_18 : decode cX4_tell 18 = .ok (.putfield 30, 3) := by decide +kernel
theorem dX4_tell_21 : decode cX4_tell 21 = .ok (.return_, 1) := by decide +kernel
theorem dX4_meansBy_0 : decode cX4_meansBy 0 = .ok (.aload_n 0, 1) := by decide +kernel
theorem dX4_meansBy_1 : decode cX4_meansBy 1 = .ok (.getfield 21, 3) := by decide +kernel
theorem dX4_meansBy_4 : decode cX4_meansBy 4 = .ok (.aload_n 1, 1) := by decide +kernel
theorem dX4_meansBy_5 : decode cX4_meansBy 5 = .ok (.getfield 33, 3) := by decide +kernel
theorem dX4_meansBy_8 : decode cX4_meansBy 8 = .ok (.iconst 4, 1) := by decide +kernel
theorem dX4_meansBy_9 : decode cX4_meansBy 9 = .ok (.iaload, 1) := by decide +kernel
theorem dX4_meansBy_10 : decode cX4_meansBy 10 = .ok (.aload_n 0, 1) := by decide +kernel
theorem dX4_meansBy_11 : decode cX4_meansBy 11 = .ok (.getfield 24, 3) := by decide +kernel
theorem dX4_meansBy_14 : decode cX4_meansBy 14 = .ok (.imul, 1) := by decide +kernel
theorem dX4_meansBy_15 : decode cX4_meansBy 15 = .ok (.isub, 1) := by decide +kernel
theorem dX4_meansBy_16 : decode cX4_meansBy 16 = .ok (.ireturn, 1) := by decide +kernel
theorem dX4_maySit_0 : decode cX4_maySit 0 = .ok (.aload_n 0, 1) := by decide +kernel
theorem dX4_maySit_1 : decode cX4_maySit 1 = .ok (.getfield 39, 3) := by decide +kernel
theorem dX4_maySit_4 : decode cX4_maySit 4 = .ok (.ifCond .eq 36, 3) := by decide +kernel
theorem dX4_maySit_7 : decode cX4_maySit 7 = .ok (.aload_n 0, 1) := by decide +kernel
theorem dX4_maySit_8 : decode cX4_maySit 8 = .ok (.getfield 43, 3) := by decide +kernel
theorem dX4_maySit_11 : decode cX4_maySit 11 = .ok (.ifCond .ne 29, 3) := by decide +kernel
theorem dX4_maySit_14 : decode cX4_maySit 14 = .ok (.aload_n 0, 1) := by decide +kernel
theorem dX4_maySit_15 : decode cX4_maySit 15 = .ok (.aload_n 1, 1) := by decide +kernel
theorem dX4_maySit_16 : decode cX4_maySit 16 = .ok (.getfield 46, 3) := by decide +kernel
theorem dX4_maySit_19 : decode cX4_maySit 19 = .ok (.invokevirtual 52, 3) := by decide +kernel
theorem dX4_maySit_22 : decode cX4_maySit 22 = .ok (.ifCond .ne 18, 3) := by decide +kernel
theorem dX4_maySit_25 : decode cX4_maySit 25 = .ok (.aload_n 0, 1) := by decide +kernel
theorem dX4_maySit_26 : decode cX4_maySit 26 = .ok (.aload_n 1, 1) := by decide +kernel
theorem dX4_maySit_27 : decode cX4_maySit 27 = .ok (.getfield 56, 3) := by decide +kernel
theorem dX4_maySit_30 : decode cX4_maySit 30 = .ok (.invokevirtual 52, 3) := by decide +kernel
theorem dX4_maySit_33 : decode cX4_maySit 33 = .ok (.ifCond .ne 7, 3) := by decide +kernel
theorem dX4_maySit_36 : decode cX4_maySit 36 = .ok (.iconst 1, 1) := by decide +kernel
theorem dX4_maySit_37 : decode cX4_maySit 37 = .ok (.goto 4, 3) := by decide +kernel
theorem dX4_maySit_40 : decode cX4_maySit 40 = .ok (.iconst 0, 1) := by decide +kernel
theorem dX4_maySit_41 : decode cX4_maySit 41 = .ok (.ireturn, 1) := by decide +kernel
theorem dX4_isKinOf_0 : decode cX4_isKinOf 0 = .ok (.aload_n 0, 1) := by decide +kernel
theorem dX4_isKinOf_1 : decode cX4_isKinOf 1 = .ok (.aload_n 1, 1) := by decide +kernel
theorem dX4_isKinOf_2 : decode cX4_isKinOf 2 = .ok (.if_acmp .eq 22, 3) := by decide +kernel
theorem dX4_isKinOf_5 : decode cX4_isKinOf 5 = .ok (.aload_n 0, 1) := by decide +kernel
theorem dX4_isKinOf_6 : decode cX4_isKinOf 6 = .ok (.getfield 18, 3) := by decide +kernel
theorem dX4_isKinOf_9 : decode cX4_isKinOf 9 = .ok (.iconst (-1), 1) := by decide +kernel
theorem dX4_isKinOf_10 : decode cX4_isKinOf 10 = .ok (.if_icmp .eq 18, 3) := by decide +kernel
theorem dX4_isKinOf_13 : decode cX4_isKinOf 13 = .ok (.aload_n 0, 1) := by decide +kernel
theorem dX4_isKinOf_14 : decode cX4_isKinOf 14 = .ok (.getfield 18, 3) := by decide +kernel
theorem dX4_isKinOf_17 : decode cX4_isKinOf 17 = .ok (.aload_n 1, 1) := by decide +kernel
theorem dX4_isKinOf_18 : decode cX4_isKinOf 18 = .ok (.getfield 18, 3) := by decide +kernel
theorem dX4_isKinOf_21 : decode cX4_isKinOf 21 = .ok (.if_icmp .ne 7, 3) := by decide +kernel
theorem dX4_isKinOf_24 : decode cX4_isKinOf 24 = .ok (.iconst 1, 1) := by decide +kernel
theorem dX4_isKinOf_25 : decode cX4_isKinOf 25 = .ok (.goto 4, 3) := by decide +kernel
theorem dX4_isKinOf_28 : decode cX4_isKinOf 28 = .ok (.iconst 0, 1) := by decide +kernel
theorem dX4_isKinOf_29 : decode cX4_isKinOf 29 = .ok (.ireturn, 1) := by decide +kernel
theorem dX5_init_0 : decode cX5_init 0 = .ok (.aload_n 0, 1) := by decide +kernel
theorem dX5_init_1 : decode cX5_init 1 = .ok (.invokespecial 3, 3) := by decide +kernel
theorem dX5_init_4 : decode cX5_init 4 = .ok (.aload_n 0, 1) := by decide +kernel
theorem dX5_init_5 : decode cX5_init 5 = .ok (.iconst 4, 1) := by decide +kernel
theorem dX5_init_6 : decode cX5_init 6 = .ok (.newarray .int, 2) := by decide +kernel
theorem dX5_init_8 : decode cX5_init 8 = .ok (.putfield 9, 3) := by decide +kernel
theorem dX5_init_11 : decode cX5_init 11 = .ok (.aload_n 0, 1) := by decide +kernel
theorem dX5_init_12 : decode cX5_init 12 = .ok (.iconst 4, 1) := by decide +kernel
theorem dX5_init_13 : decode cX5_init 13 = .ok (.newarray .int, 2) := by decide +kernel
theorem dX5_init_15 : decode cX5_init 15 = .ok (.putfield 15, 3) := by decide +kernel
theorem dX5_init_18 : decode cX5_init 18 = .ok (.aload_n 0, 1) := by decide +kernel
theorem dX5_init_19 : decode cX5_init 19 = .ok (.iconst 4, 1) := by decide +kernel
theorem dX5_init_20 : decode cX5_init 20 = .ok (.newarray .int, 2) := by decide +kernel
theorem dX5_init_22 : decode cX5_init 22 = .ok (.putfield 18, 3) := by decide +kernel
theorem dX5_init_25 : decode cX5_init 25 = .ok (.aload_n 0, 1) := by decide +kernel
theorem dX5_init_26 : decode cX5_init 26 = .ok (.iconst 4, 1) := by decide +kernel
theorem dX5_init_27 : decode cX5_init 27 = .ok (.newarray .int, 2) := by decide +kernel
theorem dX5_init_29 : decode cX5_init 29 = .ok (.putfield 21, 3) := by decide +kernel
theorem dX5_init_32 : decode cX5_init 32 = .ok (.aload_n 0, 1) := by decide +kernel
theorem dX5_init_33 : decode cX5_init 33 = .ok (.iconst 4, 1) := by decide +kernel
theorem dX5_init_34 : decode cX5_init 34 = .ok (.newarray .int, 2) := by decide +kernel
theorem dX5_init_36 : decode cX5_init 36 = .ok (.putfield 24, 3) := by decide +kernel
theorem dX5_init_39 : decode cX5_init 39 = .ok (.aload_n 0, 1) := by decide +kernel
theorem dX5_init_40 : decode cX5_init 40 = .ok (.iconst 4, 1) := by decide +kernel
theorem dX5_init_41 : decode cX5_init 41 = .ok (.newarray .int, 2) := by decide +kernel
theorem dX5_init_43 : decode cX5_init 43 = .ok (.putfield 27, 3) := by decide +kernel
theorem dX5_init_46 : decode cX5_init 46 = .ok (.aload_n 0, 1) := by decide +kernel
theorem dX5_init_47 : decode cX5_init 47 = .ok (.iconst 4, 1) := by decide +kernel
theorem dX5_init_48 : decode cX5_init 48 = .ok (.newarray .int, 2) := by decide +kernel
theorem dX5_init_50 : decode cX5_init 50 = .ok (.putfield 30, 3) := by decide +kernel
theorem dX5_init_53 : decode cX5_init 53 = .ok (.return_, 1) := by decide +kernel
theorem dX5_clear_0 : decode cX5_clear 0 = .ok (.aload_n 0, 1) := by decide +kernel
theorem dX5_clear_1 : decode cX5_clear 1 = .ok (.iconst 0, 1) := by decide +kernel
theorem dX5_clear_2 : decode cX5_clear 2 = .ok (.putfield 33, 3) := by decide +kernel
theorem dX5_clear_5 : decode cX5_clear 5 = .ok (.aload_n 0, 1) := by decide +kernel
theorem dX5_clear_6 : decode cX5_clear 6 = .ok (.iload_n 1, 1) := by decide +kernel
theorem dX5_clear_7 : decode cX5_clear 7 = .ok (.putfield 37, 3) := by decide +kernel
theorem dX5_clear_10 : decode cX5_clear 10 = .ok (.aload_n 0, 1) := by decide +kernel
theorem dX5_clear_11 : decode cX5_clear 11 = .ok (.iload_n 2, 1) := by decide +kernel
theorem dX5_clear_12 : decode cX5_clear 12 = .ok (.putfield 40, 3) := by decide +kernel
theorem dX5_clear_15 : decode cX5_clear 15 = .ok (.return_, 1) := by decide +kernel
theorem dX5_addOpen_0 : decode cX5_addOpen 0 = .ok (.aload_n 0, 1) := by decide +kernel
theorem dX5_addOpen_1 : decode cX5_addOpen 1 = .ok (.getfield 33, 3) := by decide +kernel
theorem dX5_addOpen_4 : decode cX5_addOpen 4 = .ok (.iconst 4, 1) := by decide +kernel
theorem dX5_addOpen_5 : decode cX5_addOpen 5 = .ok (.if_icmp .ge 58, 3) := by decide +kernel
theorem dX5_addOpen_8 : decode cX5_addOpen 8 = .ok (.aload_n 0, 1) := by decide +kernel
theorem dX5_addOpen_9 : decode cX5_addOpen 9 = .ok (.getfield 21, 3) := by decide +kernel
theorem dX5_addOpen_12 : decode cX5_addOpen 12 = .ok (.aload_n 0, 1) := by decide +kernel
theorem dX5_addOpen_13 : decode cX5_addOpen 13 = .ok (.getfield 33, 3) := by decide +kernel
theorem dX5_addOpen_16 : decode cX5_addOpen 16 = .ok (.aload_n 1, 1) := by decide +kernel
theorem dX5_addOpen_17 : decode cX5_addOpen 17 = .ok (.getfield 43, 3) := by decide +kernel
theorem dX5_addOpen_20 : decode cX5_addOpen 20 = .ok (.iastore, 1) := by decide +kernel
theorem dX5_addOpen_21 : decode cX5_addOpen 21 = .ok (.aload_n 0, 1) := by decide +kernel
theorem dX5_addOpen_22 : decode cX5_addOpen 22 = .ok (.getfield 24, 3) := by decide +kernel
theorem dX5_addOpen_25 : decode cX5_addOpen 25 = .ok (.aload_n 0, 1) := by decide +kernel
theorem dX5_addOpen_26 : decode cX5_addOpen 26 = .ok (.getfield 33, 3) := by decide +kernel
theorem dX5_addOpen_29 : decode cX5_addOpen 29 = .ok (.iload_n 2, 1) := by decide +kernel
theorem dX5_addOpen_30 : decode cX5_addOpen 30 = .ok (.iastore, 1) := by decide +kernel
theorem dX5_addOpen_31 : decode cX5_addOpen 31 = .ok (.aload_n 0, 1) := by decide +kernel
theorem dX5_addOpen_32 : decode cX5_addOpen 32 = .ok (.getfield 27, 3) := by decide +kernel
theorem dX5_addOpen_35 : decode cX5_addOpen 35 = .ok (.aload_n 0, 1) := by decide +kernel
theorem dX5_addOpen_36 : decode cX5_addOpen 36 = .ok (.getfield 33, 3) := by decide +kernel
theorem dX5_addOpen_39 : decode cX5_addOpen 39 = .ok (.aload_n 1, 1) := by decide +kernel
theorem dX5_addOpen_40 : decode cX5_addOpen 40 = .ok (.getfield 48, 3) := by decide +kernel
theorem dX5_addOpen_43 : decode cX5_addOpen 43 = .ok (.getfield 52, 3) := by decide +kernel
theorem dX5_addOpen_46 : decode cX5_addOpen 46 = .ok (.iconst 3, 1) := by decide +kernel
theorem dX5_addOpen_47 : decode cX5_addOpen 47 = .ok (.iaload, 1) := by decide +kernel
theorem dX5_addOpen_48 : decode cX5_addOpen 48 = .ok (.iload_n 2, 1) := by decide +kernel
theorem dX5_addOpen_49 : decode cX5_addOpen 49 = .ok (.invokestatic 57, 3) := by decide +kernel
theorem dX5_addOpen_52 : decode cX5_addOpen 52 = .ok (.iastore, 1) := by decide +kernel
theorem dX5_addOpen_53 : decode cX5_addOpen 53 = .ok (.aload_n 0, 1) := by decide +kernel
theorem dX5_addOpen_54 : decode cX5_addOpen 54 = .ok (.dup, 1) := by decide +kernel
theorem dX5_addOpen_55 : decode cX5_addOpen 55 = .ok (.getfield 33, 3) := by decide +kernel
theorem dX5_addOpen_58 : decode cX5_addOpen 58 = .ok (.iconst 1, 1) := by decide +kernel
theorem dX5_addOpen_59 : decode cX5_addOpen 59 = .ok (.iadd, 1) := by decide +kernel
theorem dX5_addOpen_60 : decode cX5_addOpen 60 = .ok (.putfield 33, 3) := by decide +kernel
theorem dX5_addOpen_63 : decode cX5_addOpen 63 = .ok (.return_, 1) := by decide +kernel
theorem dX5_settle_0 : decode cX5_settle 0 = .ok (.aload_n 0, 1) := by decide +kernel
theorem dX5_settle_1 : decode cX5_settle 1 = .ok (.getfield 33, 3) := by decide +kernel
theorem dX5_settle_4 : decode cX5_settle 4 = .ok (.ifCond .le 18, 3) := by decide +kernel
theorem dX5_settle_7 : decode cX5_settle 7 = .ok (.aload_n 0, 1) := by decide +kernel
theorem dX5_settle_8 : decode cX5_settle 8 = .ok (.iconst 0, 1) := by decide +kernel
theorem dX5_settle_9 : decode cX5_settle 9 = .ok (.invokevirtual 63, 3) := by decide +kernel
theorem dX5_settle_12 : decode cX5_settle 12 = .ok (.aload_n 0, 1) := by decide +kernel
theorem dX5_settle_13 : decode cX5_settle 13 = .ok (.getfield 40, 3) := by decide +kernel
theorem dX5_settle_16 : decode cX5_settle 16 = .ok (.if_icmp .le 6, 3) := by decide +kernel
theorem dX5_settle_19 : decode cX5_settle 19 = .ok (.bipush (-2), 2) := by decide +kernel
theorem dX5_settle_21 : decode cX5_settle 21 = .ok (.ireturn, 1) := by decide +kernel
theorem dX5_settle_22 : decode cX5_settle 22 = .ok (.aload_n 0, 1) := by decide +kernel
theorem dX5_settle_23 : decode cX5_settle 23 = .ok (.ldc 67, 2) := by decide +kernel
theorem dX5_settle_25 : decode cX5_settle 25 = .ok (.putfield 68, 3) := by decide +kernel
theorem dX5_settle_28 : decode cX5_settle 28 = .ok (.aload_n 0, 1) := by decide +kernel
theorem dX5_settle_29 : decode cX5_settle 29 = .ok (.ldc 67, 2) := by decide +kernel
theorem dX5_settle_31 : decode cX5_settle 31 = .ok (.putfield 71, 3) := by decide +kernel
theorem dX5_settle_34 : decode cX5_settle 34 = .ok (.aload_n 0, 1) := by decide +kernel
theorem dX5_settle_35 : decode cX5_settle 35 = .ok (.iconst 0, 1) := by decide +kernel
theorem dX5_settle_36 : decode cX5_settle 36 = .ok (.iconst 0, 1) := by decide +kernel
theorem dX5_settle_37 : decode cX5_settle 37 = .ok (.iconst 0, 1) := by decide +kernel
theorem dX5_settle_38 : decode cX5_settle 38 = .ok (.iconst 0, 1) := by decide +kernel
theorem dX5_settle_39 : decode cX5_settle 39 = .ok (.invokevirtual 74, 3) := by decide +kernel
theorem dX5_settle_42 : decode cX5_settle 42 = .ok (.iconst 0, 1) := by decide +kernel
theorem dX5_settle_43 : decode cX5_settle 43 = .ok (.istore_n 1, 1) := by decide +kernel
theorem dX5_settle_44 : decode cX5_settle 44 = .ok (.iload_n 1, 1) := by decide +kernel
theorem dX5_settle_45 : decode cX5_settle 45 = .ok (.aload_n 0, 1) := by decide +kernel
theorem dX5_settle_46 : decode cX5_settle 46 = .ok (.getfield 33, 3) := by decide +kernel
theorem dX5_settle_49 : decode cX5_settle 49 = .ok (.if_icmp .ge 42, 3) := by decide +kernel
theorem dX5_settle_52 : decode cX5_settle 52 = .ok (.aload_n 0, 1) := by decide +kernel
theorem dX5_settle_53 : decode cX5_settle 53 = .ok (.getfield 9, 3) := by decide +kernel
theorem dX5_settle_56 : decode cX5_settle 56 = .ok (.iload_n 1, 1) := by decide +kernel
theorem dX5_settle_57 : decode cX5_settle 57 = .ok (.aload_n 0, 1) := by decide +kernel
theorem dX5_settle_58 : decode cX5_settle 58 = .ok (.getfield 21, 3) := by decide +kernel
theorem dX5_settle_61 : decode cX5_settle 61 = .ok (.iload_n 1, 1) := by decide +kernel
theorem dX5_settle_62 : decode cX5_settle 62 = .ok (.iaload, 1) := by decide +kernel
theorem dX5_settle_63 : decode cX5_settle 63 = .ok (.iastore, 1) := by decide +kernel
theorem dX5_settle_64 : decode cX5_settle 64 = .ok (.aload_n 0, 1) := by decide +kernel
theorem dX5_settle_65 : decode cX5_settle 65 = .ok (.getfield 18, 3) := by decide +kernel
theorem dX5_settle_68 : decode cX5_settle 68 = .ok (.iload_n 1, 1) := by decide +kernel
theorem dX5_settle_69 : decode cX5_settle 69 = .ok (.aload_n 0, 1) := by decide +kernel
theorem dX5_settle_70 : decode cX5_settle 70 = .ok (.getfield 24, 3) := by decide +kernel
theorem dX5_settle_73 : decode cX5_settle 73 = .ok (.iload_n 1, 1) := by decide +kernel
theorem dX5_settle_74 : decode cX5_settle 74 = .ok (.iaload, 1) := by decide +kernel
theorem dX5_settle_75 : decode cX5_settle 75 = .ok (.aload_n 0, 1) := by decide +kernel
theorem dX5_settle_76 : decode cX5_settle 76 = .ok (.getfield 15, 3) := by decide +kernel
theorem dX5_settle_79 : decode cX5_settle 79 = .ok (.iload_n 1, 1) := by decide +kernel
theorem dX5_settle_80 : decode cX5_settle 80 = .ok (.iaload, 1) := by decide +kernel
theorem dX5_settle_81 : decode cX5_settle 81 = .ok (.invokestatic 78, 3) := by decide +kernel
theorem dX5_settle_84 : decode cX5_settle 84 = .ok (.iastore, 1) := by decide +kernel
theorem dX5_settle_85 : decode cX5_settle 85 = .ok (.iinc 1 1, 3) := by decide +kernel
theorem dX5_settle_88 : decode cX5_settle 88 = .ok (.goto (-44), 3) := by decide +kernel
theorem dX5_settle_91 : decode cX5_settle 91 = .ok (.aload_n 0, 1) := by decide +kernel
theorem dX5_settle_92 : decode cX5_settle 92 = .ok (.aload_n 0, 1) := by decide +kernel
theorem dX5_settle_93 : decode cX5_settle 93 = .ok (.getfield 33, 3) := by decide +kernel
theorem dX5_settle_96 : decode cX5_settle 96 = .ok (.putfield 81, 3) := by decide +kernel
theorem dX5_settle_99 : decode cX5_settle 99 = .ok (.aload_n 0, 1) := by decide +kernel
theorem dX5_settle_100 : decode cX5_settle 100 = .ok (.getfield 68, 3) := by decide +kernel
theorem dX5_settle_103 : decode cX5_settle 103 = .ok (.ireturn, 1) := by decide +kernel
theorem dX5_leastFrom_0 : decode cX5_leastFrom 0 = .ok (.iconst 0, 1) := by decide +kernel
theorem dX5_leastFrom_1 : decode cX5_leastFrom 1 = .ok (.istore_n 2, 1) := by decide +kernel
theorem dX5_leastFrom_2 : decode cX5_leastFrom 2 = .ok (.iload_n 1, 1) := by decide +kernel
theorem dX5_leastFrom_3 : decode cX5_leastFrom 3 = .ok (.istore_n 3, 1) := by decide +kernel
theorem dX5_leastFrom_4 : decode cX5_leastFrom 4 = .ok (.iload_n 3, 1) := by decide +kernel
theorem dX5_leastFrom_5 : decode cX5_leastFrom 5 = .ok (.aload_n 0, 1) := by decide +kernel
theorem dX5_leastFrom_6 : decode cX5_leastFrom 6 = .ok (.getfield 33, 3) := by decide +kernel
theorem dX5_leastFrom_9 : decode cX5_leastFrom 9 = .ok (.if_icmp .ge 18, 3) := by decide +kernel
theorem dX5_leastFrom_12 : decode cX5_leastFrom 12 = .ok (.iload_n 2, 1) := by decide +kernel
theorem dX5_leastFrom_13 : decode cX5_leastFrom 13 = .ok (.aload_n 0, 1) := by decide +kernel
theorem dX5_leastFrom_14 : decode cX5_leastFrom 14 = .ok (.getfield 27, 3) := by decide +kernel
theorem dX5_leastFrom_17 : decode cX5_leastFrom 17 = .ok (.iload_n 3, 1) := by decide +kernel
theorem dX5_leastFrom_18 : decode cX5_leastFrom 18 = .ok (.iaload, 1) := by decide +kernel
theorem dX5_leastFrom_19 : decode cX5_leastFrom 19 = .ok (.iadd, 1) := by decide +kernel
theorem dX5_leastFrom_20 : decode cX5_leastFrom 20 = .ok (.istore_n 2, 1) := by decide +kernel
theorem dX5_leastFrom_21 : decode cX5_leastFrom 21 = .ok (.iinc 3 1, 3) := by decide +kernel
theorem dX5_leastFrom_24 : decode cX5_leastFrom 24 = .ok (.goto (-20), 3) := by decide +kernel
theorem dX5_leastFrom_27 : decode cX5_leastFrom 27 = .ok (.iload_n 2, 1) := by decide +kernel
theorem dX5_leastFrom_28 : decode cX5_leastFrom 28 = .ok (.ireturn, 1) := by decide +kernel
theorem dX5_tryFrom_0 : decode cX5_tryFrom 0 = .ok (.iload_n 1, 1) := by decide +kernel
theorem dX5_tryFrom_1 : decode cX5_tryFrom 1 = .ok (.aload_n 0, 1) := by decide +kernel
theorem dX5_tryFrom_2 : decode cX5_tryFrom 2 = .ok (.getfield 33, 3) := by decide +kernel
theorem dX5_tryFrom_5 : decode cX5_tryFrom 5 = .ok (.if_icmp .lt 11, 3) := by decide +kernel
theorem dX5_tryFrom_8 : decode cX5_tryFrom 8 = .ok (.aload_n 0, 1) := by decide +kernel
theorem dX5_tryFrom_9 : decode cX5_tryFrom 9 = .ok (.iload_n 3, 1) := by decide +kernel
theorem dX5_tryFrom_10 : decode cX5_tryFrom 10 = .ok (.iload 4, 2) := by decide +kernel
theorem dX5_tryFrom_12 : decode cX5_tryFrom 12 = .ok (.invokevirtual 83, 3) := by decide +kernel
theorem dX5_tryFrom_15 : decode cX5_tryFrom 15 = .ok (.return_, 1) := by decide +kernel
theorem dX5_tryFrom_16 : decode cX5_tryFrom 16 = .ok (.aload_n 0, 1) := by decide +kernel
theorem dX5_tryFrom_17 : decode cX5_tryFrom 17 = .ok (.iload_n 1, 1) := by decide +kernel
theorem dX5_tryFrom_18 : decode cX5_tryFrom 18 = .ok (.iconst 1, 1) := by decide +kernel
theorem dX5_tryFrom_19 : decode cX5_tryFrom 19 = .ok (.iadd, 1) := by decide +kernel
theorem dX5_tryFrom_20 : decode cX5_tryFrom 20 = .ok (.invokevirtual 63, 3) := by decide +kernel
theorem dX5_tryFrom_23 : decode cX5_tryFrom 23 = .ok (.istore 5, 2) := by decide +kernel
theorem dX5_tryFrom_25 : decode cX5_tryFrom 25 = .ok (.iconst 0, 1) := by decide +kernel
theorem dX5_tryFrom_26 : decode cX5_tryFrom 26 = .ok (.istore 6, 2) := by decide +kernel
theorem dX5_tryFrom_28 : decode cX5_tryFrom 28 = .ok (.iload 6, 2) := by decide +kernel
theorem dX5_tryFrom_30 : decode cX5_tryFrom 30 = .ok (.bipush 12, 2) := by decide +kernel
theorem dX5_tryFrom_32 : decode cX5_tryFrom 32 = .ok (.if_icmp .gt 92, 3) := by decide +kernel
theorem dX5_tryFrom_35 : decode cX5_tryFrom 35 = .ok (.aload_n 0, 1) := by decide +kernel
theorem dX5_tryFrom_36 : decode cX5_tryFrom 36 = .ok (.getfield 27, 3) := by decide +kernel
theorem dX5_tryFrom_39 : decode cX5_tryFrom 39 = .ok (.iload_n 1, 1) := by decide +kernel
theorem dX5_tryFrom_40 : decode cX5_tryFrom 40 = .ok (.iaload, 1) := by decide +kernel
theorem dX5_tryFrom_41 : decode cX5_tryFrom 41 = .ok (.iload 6, 2) := by decide +kernel
theorem dX5_tryFrom_43 : decode cX5_tryFrom 43 = .ok (.aload_n 0, 1) := by decide +kernel
theorem dX5_tryFrom_44 : decode cX5_tryFrom 44 = .ok (.getfield 37, 3) := by decide +kernel
theorem dX5_tryFrom_47 : decode cX5_tryFrom 47 = .ok (.imul, 1) := by decide +kernel
theorem dX5_tryFrom_48 : decode cX5_tryFrom 48 = .ok (.iadd, 1) := by decide +kernel
theorem dX5_tryFrom_49 : decode cX5_tryFrom 49 = .ok (.istore 7, 2) := by decide +kernel
theorem dX5_tryFrom_51 : decode cX5_tryFrom 51 = .ok (.iload_n 2, 1) := by decide +kernel
theorem dX5_tryFrom_52 : decode cX5_tryFrom 52 = .ok (.iload 7, 2) := by decide +kernel
theorem dX5_tryFrom_54 : decode cX5_tryFrom 54 = .ok (.iadd, 1) := by decide +kernel
theorem dX5_tryFrom_55 : decode cX5_tryFrom 55 = .ok (.iload 5, 2) := by decide +kernel
theorem dX5_tryFrom_57 : decode cX5_tryFrom 57 = .ok (.iadd, 1) := by decide +kernel
theorem dX5_tryFrom_58 : decode cX5_tryFrom 58 = .ok (.aload_n 0, 1) := by decide +kernel
theorem dX5_tryFrom_59 : decode cX5_tryFrom 59 = .ok (.getfield 40, 3) := by decide +kernel
theorem dX5_tryFrom_62 : decode cX5_tryFrom 62 = .ok (.if_icmp .le 4, 3) := by decide +kernel
theorem dX5_tryFrom_65 : decode cX5_tryFrom 65 = .ok (.return_, 1) := by decide +kernel
theorem dX5_tryFrom_66 : decode cX5_tryFrom 66 = .ok (.aload_n 0, 1) := by decide +kernel
theorem dX5_tryFrom_67 : decode cX5_tryFrom 67 = .ok (.getfield 24, 3) := by decide +kernel
theorem dX5_tryFrom_70 : decode cX5_tryFrom 70 = .ok (.iload_n 1, 1) := by decide +kernel
theorem dX5_tryFrom_71 : decode cX5_tryFrom 71 = .ok (.iaload, 1) := by decide +kernel
theorem dX5_tryFrom_72 : decode cX5_tryFrom 72 = .ok (.iload 7, 2) := by decide +kernel
theorem dX5_tryFrom_74 : decode cX5_tryFrom 74 = .ok (.invokestatic 78, 3) := by decide +kernel
theorem dX5_tryFrom_77 : decode cX5_tryFrom 77 = .ok (.istore 8, 2) := by decide +kernel
theorem dX5_tryFrom_79 : decode cX5_tryFrom 79 = .ok (.aload_n 0, 1) := by decide +kernel
theorem dX5_tryFrom_80 : decode cX5_tryFrom 80 = .ok (.getfield 30, 3) := by decide +kernel
theorem dX5_tryFrom_83 : decode cX5_tryFrom 83 = .ok (.iload_n 1, 1) := by decide +kernel
theorem dX5_tryFrom_84 : decode cX5_tryFrom 84 = .ok (.iload 7, 2) := by decide +kernel
theorem dX5_tryFrom_86 : decode cX5_tryFrom 86 = .ok (.iastore, 1) := by decide +kernel
theorem dX5_tryFrom_87 : decode cX5_tryFrom 87 = .ok (.iload 8, 2) := by decide +kernel
theorem dX5_tryFrom_89 : decode cX5_tryFrom 89 = .ok (.aload_n 0, 1) := by decide +kernel
theorem dX5_tryFrom_90 : decode cX5_tryFrom 90 = .ok (.getfield 68, 3) := by decide +kernel
theorem dX5_tryFrom_93 : decode cX5_tryFrom 93 = .ok (.if_icmp .gt 25, 3) := by decide +kernel
theorem dX5_tryFrom_96 : decode cX5_tryFrom 96 = .ok (.aload_n 0, 1) := by decide +kernel
theorem dX5_tryFrom_97 : decode cX5_tryFrom 97 = .ok (.iload_n 1, 1) := by decide +kernel
theorem dX5_tryFrom_98 : decode cX5_tryFrom 98 = .ok (.iconst 1, 1) := by decide +kernel
theorem dX5_tryFrom_99 : decode cX5_tryFrom 99 = .ok (.iadd, 1) := by decide +kernel
theorem dX5_tryFrom_100 : decode cX5_tryFrom 100 = .ok (.iload_n 2, 1) := by decide +kernel
theorem dX5_tryFrom_101 : decode cX5_tryFrom 101 = .ok (.iload 7, 2) := by decide +kernel
theorem dX5_tryFrom_103 : decode cX5_tryFrom 103 = .ok (.iadd, 1) := by decide +kernel
theorem dX5_tryFrom_104 : decode cX5_tryFrom 104 = .ok (.iload_n 3, 1) := by decide +kernel
theorem dX5_tryFrom_105 : decode cX5_tryFrom 105 = .ok (.iload 8, 2) := by decide +kernel
theorem dX5_tryFrom_107 : decode cX5_tryFrom 107 = .ok (.invokestatic 87, 3) := by decide +kernel
theorem dX5_tryFrom_110 : decode cX5_tryFrom 110 = .ok (.iload 4, 2) := by decide +kernel
theorem dX5_tryFrom_112 : decode cX5_tryFrom 112 = .ok (.iload 8, 2) := by decide +kernel
theorem dX5_tryFrom_114 : decode cX5_tryFrom 114 = .ok (.iadd, 1) := by decide +kernel
theorem dX5_tryFrom_115 : decode cX5_tryFrom 115 = .ok (.invokevirtual 74, 3) := by decide +kernel
theorem dX5_tryFrom_118 : decode cX5_tryFrom 118 = .ok (.iinc 6 1, 3) := by decide +kernel
theorem dX5_tryFrom_121 : decode cX5_tryFrom 121 = .ok (.goto (-93), 3) := by decide +kernel
theorem dX5_tryFrom_124 : decode cX5_tryFrom 124 = .ok (.return_, 1) := by decide +kernel
theorem dX5_keepIfBetter_0 : decode cX5_keepIfBetter 0 = .ok (.iload_n 1, 1) := by decide +kernel
theorem dX5_keepIfBetter_1 : decode cX5_keepIfBetter 1 = .ok (.aload_n 0, 1) := by decide +kernel
theorem dX5_keepIfBetter_2 : decode cX5_keepIfBetter 2 = .ok (.getfield 68, 3) := by decide +kernel
theorem dX5_keepIfBetter_5 : decode cX5_keepIfBetter 5 = .ok (.if_icmp .lt 19, 3) := by decide +kernel
theorem dX5_keepIfBetter_8 : decode cX5_keepIfBetter 8 = .ok (.iload_n 1, 1) := by decide +kernel
theorem dX5_keepIfBetter_9 : decode cX5_keepIfBetter 9 = .ok (.aload_n 0, 1) := by decide +kernel
theorem dX5_keepIfBetter_10 : decode cX5_keepIfBetter 10 = .ok (.getfield 68, 3) := by decide +kernel
theorem dX5_keepIfBetter_13 : decode cX5_keepIfBetter 13 = .ok (.if_icmp .ne 38, 3) := by decide +kernel
theorem dX5_keepIfBetter_16 : decode cX5_keepIfBetter 16 = .ok (.iload_n 2, 1) := by decide +kernel
theorem dX5_keepIfBetter_17 : decode cX5_keepIfBetter 17 = .ok (.aload_n 0, 1) := by decide +kernel
theorem dX5_keepIfBetter_18 : decode cX5_keepIfBetter 18 = .ok (.getfield 71, 3) := by decide +kernel
theorem dX5_keepIfBetter_21 : decode cX5_keepIfBetter 21 = .ok (.if_icmp .ge 30, 3) := by decide +kernel
theorem dX5_keepIfBetter_24 : decode cX5_keepIfBetter 24 = .ok (.aload_n 0, 1) := by decide +kernel
theorem dX5_keepIfBetter_25 : decode cX5_keepIfBetter 25 = .ok (.iload_n 1, 1) := by decide +kernel
theorem dX5_keepIfBetter_26 : decode cX5_keepIfBetter 26 = .ok (.putfield 68, 3) := by decide +kernel
theorem dX5_keepIfBetter_29 : decode cX5_keepIfBetter 29 = .ok (.aload_n 0, 1) := by decide +kernel
theorem dX5_keepIfBetter_30 : decode cX5_keepIfBetter 30 = .ok (.iload_n 2, 1) := by decide +kernel
theorem dX5_keepIfBetter_31 : decode cX5_keepIfBetter 31 = .ok (.putfield 71, 3) := by decide +kernel
theorem dX5_keepIfBetter_34 : decode cX5_keepIfBetter 34 = .ok (.aload_n 0, 1) := by decide +kernel
theorem dX5_keepIfBetter_35 : decode cX5_keepIfBetter 35 = .ok (.getfield 30, 3) := by decide +kernel
theorem dX5_keepIfBetter_38 : decode cX5_keepIfBetter 38 = .ok (.iconst 0, 1) := by decide +kernel
theorem dX5_keepIfBetter_39 : decode cX5_keepIfBetter 39 = .ok (.aload_n 0, 1) := by decide +kernel
theorem dX5_keepIfBetter_40 : decode cX5_keepIfBetter 40 = .ok (.getfield 15, 3) := by decide +kernel
theorem dX5_keepIfBetter_43 : decode cX5_keepIfBetter 43 = .ok (.iconst 0, 1) := by decide +kernel
theorem dX5_keepIfBetter_44 : decode cX5_keepIfBetter 44 = .ok (.aload_n 0, 1) := by decide +kernel
theorem dX5_keepIfBetter_45 : decode cX5_keepIfBetter 45 = .ok (.getfield 33, 3) := by decide +kernel
theorem dX5_keepIfBetter_48 : decode cX5_keepIfBetter 48 = .ok (.invokestatic 90, 3) := by decide +kernel
theorem dX5_keepIfBetter_51 : decode cX5_keepIfBetter 51 = .ok (.return_, 1) := by decide +kernel
theorem dX6_init_0 : decode cX6_init 0 = .ok (.aload_n 0, 1) := by decide +kernel
theorem dX6_init_1 : decode cX6_init 1 = .ok (.invokespecial 3, 3) := by decide +kernel
theorem dX6_init_4 : decode cX6_init 4 = .ok (.aload_n 0, 1) := by decide +kernel
theorem dX6_init_5 : decode cX6_init 5 = .ok (.iconst 0, 1) := by decide +kernel
theorem dX6_init_6 : decode cX6_init 6 = .ok (.newarray .byte, 2) := by decide +kernel
theorem dX6_init_8 : decode cX6_init 8 = .ok (.putfield 9, 3) := by decide +kernel
theorem dX6_init_11 : decode cX6_init 11 = .ok (.return_, 1) := by decide +kernel
theorem dX6_readAct_0 : decode cX6_readAct 0 = .ok (.aload_n 0, 1) := by decide +kernel
theorem dX6_readAct_1 : decode cX6_readAct 1 = .ok (.aload_n 1, 1) := by decide +kernel
theorem dX6_readAct_2 : decode cX6_readAct 2 = .ok (.putfield 9, 3) := by decide +kernel
theorem dX6_readAct_5 : decode cX6_readAct 5 = .ok (.aload_n 0, 1) := by decide +kernel
theorem dX6_readAct_6 : decode cX6_readAct 6 = .ok (.iload_n 2, 1) := by decide +kernel
theorem dX6_readAct_7 : decode cX6_readAct 7 = .ok (.ifCond .lt 9, 3) := by decide +kernel
theorem dX6_readAct_10 : decode cX6_readAct 10 = .ok (.iload_n 2, 1) := by decide +kernel
theorem dX6_readAct_11 : decode cX6_readAct 11 = .ok (.aload_n 1, 1) := by decide +kernel
theorem dX6_readAct_12 : decode cX6_readAct 12 = .ok (.arraylength, 1) := by decide +kernel
theorem dX6_readAct_13 : decode cX6_readAct 13 = .ok (.if_icmp .le 7, 3) := by decide +kernel
theorem dX6_readAct_16 : decode cX6_readAct 16 = .ok (.iconst 0, 1) := by decide +kernel
theorem dX6_readAct_17 : decode cX6_readAct 17 = .ok (.goto 4, 3) := by decide +kernel
theorem dX6_readAct_20 : decode cX6_readAct 20 = .ok (.iload_n 2, 1) := by decide +kernel
theorem dX6_readAct_21 : decode cX6_readAct 21 = .ok (.putfield 15, 3) := by decide +kernel
theorem dX6_readAct_24 : decode cX6_readAct 24 = .ok (.aload_n 0, 1) := by decide +kernel
theorem dX6_readAct_25 : decode cX6_readAct 25 = .ok (.iconst 0, 1) := by decide +kernel
theorem dX6_readAct_26 : decode cX6_readAct 26 = .ok (.putfield 19, 3) := by decide +kernel
theorem dX6_readAct_29 : decode cX6_readAct 29 = .ok (.aload_n 0, 1) := by decide +kernel
theorem dX6_readAct_30 : decode cX6_readAct 30 = .ok (.iconst 0, 1) := by decide +kernel
theorem dX6_readAct_31 : decode cX6_readAct 31 = .ok (.putfield 22, 3) := by decide +kernel
theorem dX6_readAct_34 : decode cX6_readAct 34 = .ok (.aload_n 0, 1) := by decide +kernel
theorem dX6_readAct_35 : decode cX6_readAct 35 = .ok (.iconst 0, 1) := by decide +kernel
theorem dX6_readAct_36 : decode cX6_readAct 36 = .ok (.putfield 25, 3) := by decide +kernel
theorem dX6_readAct_39 : decode cX6_readAct 39 = .ok (.aload_n 0, 1) := by decide +kernel
theorem dX6_readAct_40 : decode cX6_readAct 40 = .ok (.iconst 0, 1) := by decide +kernel
theorem dX6_readAct_41 : decode cX6_readAct 41 = .ok (.putfield 28, 3) := by decide +kernel
theorem dX6_readAct_44 : decode cX6_readAct 44 = .ok (.aload_n 0, 1) := by decide +kernel
theorem dX6_readAct_45 : decode cX6_readAct 45 = .ok (.aload_n 3, 1) := by decide +kernel
theorem dX6_readAct_46 : decode cX6_readAct 46 = .ok (.putfield 31, 3) := by decide +kernel
theorem dX6_readAct_49 : decode cX6_readAct 49 = .ok (.aload_n 0, 1) := by decide +kernel
theorem dX6_readAct_50 : decode cX6_readAct 50 = .ok (.invokevirtual 35, 3) := by decide +kernel
theorem dX6_readAct_53 : decode cX6_readAct 53 = .ok (.aload_n 0, 1) := by decide +kernel
theorem dX6_readAct_54 : decode cX6_readAct 54 = .ok (.getfield 19, 3) := by decide +kernel
theorem dX6_readAct_57 : decode cX6_readAct 57 = .ok (.aload_n 0, 1) := by decide +kernel
theorem dX6_readAct_58 : decode cX6_readAct 58 = .ok (.getfield 15, 3) := by decide +kernel
theorem dX6_readAct_61 : decode cX6_readAct 61 = .ok (.if_icmp .ge 7, 3) := by decide +kernel
theorem dX6_readAct_64 : decode cX6_readAct 64 = .ok (.iconst 1, 1) := by decide +kernel
theorem dX6_readAct_65 : decode cX6_readAct 65 = .ok (.goto 4, 3) := by decide +kernel
theorem dX6_readAct_68 : decode cX6_readAct 68 = .ok (.iconst 0, 1) := by decide +kernel
theorem dX6_readAct_69 : decode cX6_readAct 69 = .ok (.istore 4, 2) := by decide +kernel
theorem dX6_readAct_71 : decode cX6_readAct 71 = .ok (.iconst 0, 1) := by decide +kernel
theorem dX6_readAct_72 : decode cX6_readAct 72 = .ok (.istore 5, 2) := by decide +kernel
theorem dX6_readAct_74 : decode cX6_readAct 74 = .ok (.iload 5, 2) := by decide +kernel
theorem dX6_readAct_76 : decode cX6_readAct 76 = .ok (.aload_n 0, 1) := by decide +kernel
theorem dX6_readAct_77 : decode cX6_readAct 77 = .ok (.getfield 15, 3) := by decide +kernel
theorem dX6_readAct_80 : decode cX6_readAct 80 = .ok (.if_icmp .gt 35, 3) := by decide +kernel
theorem dX6_readAct_83 : decode cX6_readAct 83 = .ok (.iload 4, 2) := by decide +kernel
theorem dX6_readAct_85 : decode cX6_readAct 85 = .ok (.ifCond .eq 30, 3) := by decide +kernel
theorem dX6_readAct_88 : decode cX6_readAct 88 = .ok (.aload_n 0, 1) := by decide +kernel
theorem dX6_readAct_89 : decode cX6_readAct 89 = .ok (.invokevirtual 38, 3) := by decide +kernel
theorem dX6_readAct_92 : decode cX6_readAct 92 = .ok (.ifCond .eq 14, 3) := by decide +kernel
theorem dX6_readAct_95 : decode cX6_readAct 95 = .ok (.aload_n 0, 1) := by decide +kernel
theorem dX6_readAct_96 : decode cX6_readAct 96 = .ok (.invokevirtual 42, 3) := by decide +kernel
theorem dX6_readAct_99 : decode cX6_readAct 99 = .ok (.ifCond .eq 7, 3) := by decide +kernel
theorem dX6_readAct_102 : decode cX6_readAct 102 = .ok (.iconst 1, 1) := by decide +kernel
theorem dX6_readAct_103 : decode cX6_readAct 103 = .ok (.goto 4, 3) := by decide +kernel
theorem dX6_readAct_106 : decode cX6_readAct 106 = .ok (.iconst 0, 1) := by decide +kernel
theorem dX6_readAct_107 : decode cX6_readAct 107 = .ok (.istore 4, 2) := by decide +kernel
theorem dX6_readAct_109 : decode cX6_readAct 109 = .ok (.iinc 5 1, 3) := by decide +kernel
theorem dX6_readAct_112 : decode cX6_readAct 112 = .ok (.goto (-38), 3) := by decide +kernel
theorem dX6_readAct_115 : decode cX6_readAct 115 = .ok (.aload_n 0, 1) := by decide +kernel
theorem dX6_readAct_116 : decode cX6_readAct 116 = .ok (.getfield 22, 3) := by decide +kernel
theorem dX6_readAct_119 : decode cX6_readAct 119 = .ok (.ireturn, 1) := by decide +kernel
theorem dX6_isAnotherClause_0 : decode cX6_isAnotherClause 0 = .ok (.aload_n 0, 1) := by decide +kernel
theorem dX6_isAnotherClause_1 : decode cX6_isAnotherClause 1 = .ok (.invokevirtual 35, 3) := by decide +kernel
theorem dX6_isAnotherClause_4 : decode cX6_isAnotherClause 4 = .ok (.aload_n 0, 1) := by decide +kernel
theorem dX6_isAnotherClause_5 : decode cX6_isAnotherClause 5 = .ok (.getfield 19, 3) := by decide +kernel
theorem dX6_isAnotherClause_8 : decode cX6_isAnotherClause 8 = .ok (.aload_n 0, 1) := by decide +kernel
theorem dX6_isAnotherClause_9 : decode cX6_isAnotherClause 9 = .ok (.getfield 15, 3) := by decide +kernel
theorem dX6_isAnotherClause_12 : decode cX6_isAnotherClause 12 = .ok (.if_icmp .lt 5, 3) := by decide +kernel
theorem dX6_isAnotherClause_15 : decode cX6_isAnotherClause 15 = .ok (.iconst 0, 1) := by decide +kernel
theorem dX6_isAnotherClause_16 : decode cX6_isAnotherClause 16 = .ok (.ireturn, 1) := by decide +kernel
theorem dX6_isAnotherClause_17 : decode cX6_isAnotherClause 17 = .ok (.aload_n 0, 1) := by decide +kernel
theorem dX6_isAnotherClause_18 : decode cX6_isAnotherClause 18 = .ok (.getfield 9, 3) := by decide +kernel
theorem dX6_isAnotherClause_21 : decode cX6_isAnotherClause 21 = .ok (.aload_n 0, 1) := by decide +kernel
theorem dX6_isAnotherClause_22 : decode cX6_isAnotherClause 22 = .ok (.getfield 19, 3) := by decide +kernel
theorem dX6_isAnotherClause_25 : decode cX6_isAnotherClause 25 = .ok (.baload, 1) := by decide +kernel
theorem dX6_isAnotherClause_26 : decode cX6_isAnotherClause 26 = .ok (.bipush 59, 2) := by decide +kernel
theorem dX6_isAnotherClause_28 : decode cX6_isAnotherClause 28 = .ok (.if_icmp .eq 13, 3) := by decide +kernel
theorem dX6_isAnotherClause_31 : decode cX6_isAnotherClause 31 = .ok (.aload_n 0, 1) := by decide +kernel
theorem dX6_isAnotherClause_32 : decode cX6_isAnotherClause 32 = .ok (.aload_n 0, 1) := by decide +kernel
theorem dX6_isAnotherClause_33 : decode cX6_isAnotherClause 33 = .ok (.getfield 19, 3) := by decide +kernel
theorem dX6_isAnotherClause_36 : decode cX6_isAnotherClause 36 = .ok (.iconst 0, 1) := by decide +kernel
theorem dX6_isAnotherClause_37 : decode cX6_isAnotherClause 37 = .ok (.invokevirtual 45, 3) := by decide +kernel
theorem dX6_isAnotherClause_40 : decode cX6_isAnotherClause 40 = .ok (.ireturn, 1) := by decide +kernel
theorem dX6_isAnotherClause_41 : decode cX6_isAnotherClause 41 = .ok (.aload_n 0, 1) := by decide +kernel
theorem dX6_isAnotherClause_42 : decode cX6_isAnotherClause 42 = .ok (.dup, 1) := by decide +kernel
theorem dX6_isAnotherClause_43 : decode cX6_isAnotherClause 43 = .ok (.getfield 19, 3) := by decide +kernel
theorem dX6_isAnotherClause_46 : decode cX6_isAnotherClause 46 = .ok (.iconst 1, 1) := by decide +kernel
theorem dX6_isAnotherClause_47 : decode cX6_isAnotherClause 47 = .ok (.iadd, 1) := by decide +kernel
theorem dX6_isAnotherClause_48 : decode cX6_isAnotherClause 48 = .ok (.putfield 19, 3) := by decide +kernel
theorem dX6_isAnotherClause_51 : decode cX6_isAnotherClause 51 = .ok (.iconst 1, 1) := by decide +kernel
theorem dX6_isAnotherClause_52 : decode cX6_isAnotherClause 52 = .ok (.ireturn, 1) := by decide +kernel
theorem dX6_readClause_0 : decode cX6_readClause 0 = .ok (.aload_n 0, 1) := by decide +kernel
theorem dX6_readClause_1 : decode cX6_readClause 1 = .ok (.invokevirtual 35, 3) := by decide +kernel
theorem dX6_readClause_4 : decode cX6_readClause 4 = .ok (.aload_n 0, 1) := by decide +kernel
theorem dX6_readClause_5 : decode cX6_readClause 5 = .ok (.getfield 19, 3) := by decide +kernel
theorem dX6_readClause_8 : decode cX6_readClause 8 = .ok (.istore_n 1, 1) := by decide +kernel
theorem dX6_readClause_9 : decode cX6_readClause 9 = .ok (.aload_n 0, 1) := by decide +kernel
theorem dX6_readClause_10 : decode cX6_readClause 10 = .ok (.ldc 49, 2) := by decide +kernel
theorem dX6_readClause_12 : decode cX6_readClause 12 = .ok (.invokevirtual 51, 3) := by decide +kernel
theorem dX6_readClause_15 : decode cX6_readClause 15 = .ok (.istore_n 2, 1) := by decide +kernel
theorem dX6_readClause_16 : decode cX6_readClause 16 = .ok (.iload_n 2, 1) := by decide +kernel
theorem dX6_readClause_17 : decode cX6_readClause 17 = .ok (.ifCond .ge 10, 3) := by decide +kernel
theorem dX6_readClause_20 : decode cX6_readClause 20 = .ok (.aload_n 0, 1) := by decide +kernel
theorem dX6_readClause_21 : decode cX6_readClause 21 = .ok (.iload_n 1, 1) := by decide +kernel
theorem dX6_readClause_22 : decode cX6_readClause 22 = .ok (.iconst 0, 1) := by decide +kernel
theorem dX6_readClause_23 : decode cX6_readClause 23 = .ok (.invokevirtual 45, 3) := by decide +kernel
theorem dX6_readClause_26 : decode cX6_readClause 26 = .ok (.ireturn, 1) := by decide +kernel
theorem dX6_readClause_27 : decode cX6_readClause 27 = .ok (.iload_n 2, 1) := by decide +kernel
theorem dX6_readClause_28 : decode cX6_readClause 28 = .ok (.bipush 10, 2) := by decide +kernel
theorem dX6_readClause_30 : decode cX6_readClause 30 = .ok (.if_icmp .ne 8, 3) := by decide +kernel
theorem dX6_readClause_33 : decode cX6_readClause 33 = .ok (.aload_n 0, 1) := by decide +kernel
theorem dX6_readClause_34 : decode cX6_readClause 34 = .ok (.invokevirtual 55, 3) := by decide +kernel
theorem dX6_readClause_37 : decode cX6_readClause 37 = .ok (.ireturn, 1) := by decide +kernel
theorem dX6_readClause_38 : decode cX6_readClause 38 = .ok (.iload_n 2, 1) := by decide +kernel
theorem dX6_readClause_39 : decode cX6_readClause 39 = .ok (.bipush 11, 2) := by decide +kernel
theorem dX6_readClause_41 : decode cX6_readClause 41 = .ok (.if_icmp .ne 35, 3) := by decide +kernel
theorem dX6_readClause_44 : decode cX6_readClause 44 = .ok (.aload_n 0, 1) := by decide +kernel
theorem dX6_readClause_45 : decode cX6_readClause 45 = .ok (.getfield 31, 3) := by decide +kernel
theorem dX6_readClause_48 : decode cX6_readClause 48 = .ok (.iconst 0, 1) := by decide +kernel
theorem dX6_readClause_49 : decode cX6_readClause 49 = .ok (.putfield 58, 3) := by decide +kernel
theorem dX6_readClause_52 : decode cX6_readClause 52 = .ok (.aload_n 0, 1) := by decide +kernel
theorem dX6_readClause_53 : decode cX6_readClause 53 = .ok (.bipush 14, 2) := by decide +kernel
theorem dX6_readClause_55 : decode cX6_readClause 55 = .ok (.iload_n 1, 1) := by decide +kernel
theorem dX6_readClause_56 : decode cX6_readClause 56 = .ok (.invokevirtual 63, 3) := by decide +kernel
theorem dX6_readClause_59 : decode cX6_readClause 59 = .ok (.ifCond .eq 15, 3) := by decide +kernel
theorem dX6_readClause_62 : decode cX6_readClause 62 = .ok (.aload_n 0, 1) := by decide +kernel
theorem dX6_readClause_63 : decode cX6_readClause 63 = .ok (.iconst 0, 1) := by decide +kernel
theorem dX6_readClause_64 : decode cX6_readClause 64 = .ok (.invokevirtual 66, 3) := by decide +kernel
theorem dX6_readClause_67 : decode cX6_readClause 67 = .ok (.ifCond .eq 7, 3) := by decide +kernel
theorem dX6_readClause_70 : decode cX6_readClause 70 = .ok (.iconst 1, 1) := by decide +kernel
theorem dX6_readClause_71 : decode cX6_readClause 71 = .ok (.goto 4, 3) := by decide +kernel
theorem dX6_readClause_74 : decode cX6_readClause 74 = .ok (.iconst 0, 1) := by decide +kernel
theorem dX6_readClause_75 : decode cX6_readClause 75 = .ok (.ireturn, 1) := by decide +kernel
theorem dX6_readClause_76 : decode cX6_readClause 76 = .ok (.aload_n 0, 1) := by decide +kernel
theorem dX6_readClause_77 : decode cX6_readClause 77 = .ok (.iload_n 2, 1) := by decide +kernel
theorem dX6_readClause_78 : decode cX6_readClause 78 = .ok (.iload_n 1, 1) := by decide +kernel
theorem dX6_readClause_79 : decode cX6_readClause 79 = .ok (.invokevirtual 63, 3) := by decide +kernel
theorem dX6_readClause_82 : decode cX6_readClause 82 = .ok (.ifCond .eq 30, 3) := by decide +kernel
theorem dX6_readClause_85 : decode cX6_readClause 85 = .ok (.aload_n 0, 1) := by decide +kernel
theorem dX6_readClause_86 : decode cX6_readClause 86 = .ok (.iload_n 2, 1) := by decide +kernel
theorem dX6_readClause_87 : decode cX6_readClause 87 = .ok (.invokevirtual 70, 3) := by decide +kernel
theorem dX6_readClause_90 : decode cX6_readClause 90 = .ok (.ifCond .eq 22, 3) := by decide +kernel
theorem dX6_readClause_93 : decode cX6_readClause 93 = .ok (.iload_n 2, 1) := by decide +kernel
theorem dX6_readClause_94 : decode cX6_readClause 94 = .ok (.bipush 6, 2) := by decide +kernel
theorem dX6_readClause_96 : decode cX6_readClause 96 = .ok (.if_icmp .ne 12, 3) := by decide +kernel
theorem dX6_readClause_99 : decode cX6_readClause 99 = .ok (.aload_n 0, 1) := by decide +kernel
theorem dX6_readClause_100 : decode cX6_readClause 100 = .ok (.bipush 7, 2) := by decide +kernel
theorem dX6_readClause_102 : decode cX6_readClause 102 = .ok (.invokevirtual 70, 3) := by decide +kernel
theorem dX6_readClause_105 : decode cX6_readClause 105 = .ok (.ifCond .eq 7, 3) := by decide +kernel
theorem dX6_readClause_108 : decode cX6_readClause 108 = .ok (.iconst 1, 1) := by decide +kernel
theorem dX6_readClause_109 : decode cX6_readClause 109 = .ok (.goto 4, 3) := by decide +kernel
theorem dX6_readClause_112 : decode cX6_readClause 112 = .ok (.iconst 0, 1) := by decide +kernel
theorem dX6_readClause_113 : decode cX6_readClause 113 = .ok (.ireturn, 1) := by decide +kernel
theorem dX6_readCost_0 : decode cX6_readCost 0 = .ok (.aload_n 0, 1) := by decide +kernel
theorem dX6_readCost_1 : decode cX6_readCost 1 = .ok (.invokevirtual 35, 3) := by decide +kernel
theorem dX6_readCost_4 : decode cX6_readCost 4 = .ok (.aload_n 0, 1) := by decide +kernel
theorem dX6_readCost_5 : decode cX6_readCost 5 = .ok (.getfield 19, 3) := by decide +kernel
theorem dX6_readCost_8 : decode cX6_readCost 8 = .ok (.istore_n 1, 1) := by decide +kernel
theorem dX6_readCost_9 : decode cX6_readCost 9 = .ok (.aload_n 0, 1) := by decide +kernel
theorem dX6_readCost_10 : decode cX6_readCost 10 = .ok (.ldc 73, 2) := by decide +kernel
theorem dX6_readCost_12 : decode cX6_readCost 12 = .ok (.invokevirtual 51, 3) := by decide +kernel
theorem dX6_readCost_15 : decode cX6_readCost 15 = .ok (.istore_n 2, 1) := by decide +kernel
theorem dX6_readCost_16 : decode cX6_readCost 16 = .ok (.iload_n 2, 1) := by decide +kernel
theorem dX6_readCost_17 : decode cX6_readCost 17 = .ok (.ifCond .ge 10, 3) := by decide +kernel
theorem dX6_readCost_20 : decode cX6_readCost 20 = .ok (.aload_n 0, 1) := by decide +kernel
theorem dX6_readCost_21 : decode cX6_readCost 21 = .ok (.iload_n 1, 1) := by decide +kernel
theorem dX6_readCost_22 : decode cX6_readCost 22 = .ok (.iconst 0, 1) := by decide +kernel
theorem dX6_readCost_23 : decode cX6_readCost 23 = .ok (.invokevirtual 45, 3) := by decide +kernel
theorem dX6_readCost_26 : decode cX6_readCost 26 = .ok (.ireturn, 1) := by decide +kernel
theorem dX6_readCost_27 : decode cX6_readCost 27 = .ok (.aload_n 0, 1) := by decide +kernel
theorem dX6_readCost_28 : decode cX6_readCost 28 = .ok (.bipush 10, 2) := by decide +kernel
theorem dX6_readCost_30 : decode cX6_readCost 30 = .ok (.iload_n 2, 1) := by decide +kernel
theorem dX6_readCost_31 : decode cX6_readCost 31 = .ok (.iadd, 1) := by decide +kernel
theorem dX6_readCost_32 : decode cX6_readCost 32 = .ok (.iload_n 1, 1) := by decide +kernel
theorem dX6_readCost_33 : decode cX6_readCost 33 = .ok (.invokevirtual 63, 3) := by decide +kernel
theorem dX6_readCost_36 : decode cX6_readCost 36 = .ok (.ifCond .eq 18, 3) := by decide +kernel
theorem dX6_readCost_39 : decode cX6_readCost 39 = .ok (.aload_n 0, 1) := by decide +kernel
theorem dX6_readCost_40 : decode cX6_readCost 40 = .ok (.bipush 10, 2) := by decide +kernel
theorem dX6_readCost_42 : decode cX6_readCost 42 = .ok (.iload_n 2, 1) := by decide +kernel
theorem dX6_readCost_43 : decode cX6_readCost 43 = .ok (.iadd, 1) := by decide +kernel
theorem dX6_readCost_44 : decode cX6_readCost 44 = .ok (.invokevirtual 70, 3) := by decide +kernel
theorem dX6_readCost_47 : decode cX6_readCost 47 = .ok (.ifCond .eq 7, 3) := by decide +kernel
theorem dX6_readCost_50 : decode cX6_readCost 50 = .ok (.iconst 1, 1) := by decide +kernel
theorem dX6_readCost_51 : decode cX6_readCost 51 = .ok (.goto 4, 3) := by decide +kernel
theorem dX6_readCost_54 : decode cX6_readCost 54 = .ok (.iconst 0, 1) := by decide +kernel
theorem dX6_readCost_55 : decode cX6_readCost 55 = .ok (.ireturn, 1) := by decide +kernel
theorem dX6_tellOnce_0 : decode cX6_tellOnce 0 = .ok (.iconst 1, 1) := by decide +kernel
theorem dX6_tellOnce_1 : decode cX6_tellOnce 1 = .ok (.iload_n 1, 1) := by decide +kernel
theorem dX6_tellOnce_2 : decode cX6_tellOnce 2 = .ok (.ishl, 1) := by decide +kernel
theorem dX6_tellOnce_3 : decode cX6_tellOnce 3 = .ok (.istore_n 3, 1) := by decide +kernel
theorem dX6_tellOnce_4 : decode cX6_tellOnce 4 = .ok (.aload_n 0, 1) := by decide +kernel
theorem dX6_tellOnce_5 : decode cX6_tellOnce 5 = .ok (.getfield 25, 3) := by decide +kernel
theorem dX6_tellOnce_8 : decode cX6_tellOnce 8 = .ok (.iload_n 3, 1) := by decide +kernel
theorem dX6_tellOnce_9 : decode cX6_tellOnce 9 = .ok (.iand, 1) := by decide +kernel
theorem dX6_tellOnce_10 : decode cX6_tellOnce 10 = .ok (.ifCond .eq 10, 3) := by decide +kernel
theorem dX6_tellOnce_13 : decode cX6_tellOnce 13 = .ok (.aload_n 0, 1) := by decide +kernel
theorem dX6_tellOnce_14 : decode cX6_tellOnce 14 = .ok (.iload_n 2, 1) := by decide +kernel
theorem dX6_tellOnce_15 : decode cX6_tellOnce 15 = .ok (.iconst 2, 1) := by decide +kernel
theorem dX6_tellOnce_16 : decode cX6_tellOnce 16 = .ok (.invokevirtual 45, 3) := by decide +kernel
theorem dX6_tellOnce_19 : decode cX6_tellOnce 19 = .ok (.ireturn, 1) := by decide +kernel
theorem dX6_tellOnce_20 : decode cX6_tellOnce 20 = .ok (.aload_n 0, 1) := by decide +kernel
theorem dX6_tellOnce_21 : decode cX6_tellOnce 21 = .ok (.dup, 1) := by decide +kernel
theorem dX6_tellOnce_22 : decode cX6_tellOnce 22 = .ok (.getfield 25, 3) := by decide +kernel
theorem dX6_tellOnce_25 : decode cX6_tellOnce 25 = .ok (.iload_n 3, 1) := by decide +kernel
theorem dX6_tellOnce_26 : decode cX6_tellOnce 26 = .ok (.ior, 1) := by decide +kernel
theorem dX6_tellOnce_27 : decode cX6_tellOnce 27 = .ok (.putfield 25, 3) := by decide +kernel
theorem dX6_tellOnce_30 : decode cX6_tellOnce 30 = .ok (.iconst 1, 1) := by decide +kernel
theorem dX6_tellOnce_31 : decode cX6_tellOnce 31 = .ok (.ireturn, 1) := by decide +kernel
theorem dX6_readTold_0 : decode cX6_readTold 0 = .ok (.aload_n 0, 1) := by decide +kernel
theorem dX6_readTold_1 : decode cX6_readTold 1 = .ok (.invokevirtual 35, 3) := by decide +kernel
theorem dX6_readTold_4 : decode cX6_readTold 4 = .ok (.aload_n 0, 1) := by decide +kernel
theorem dX6_readTold_5 : decode cX6_readTold 5 = .ok (.getfield 19, 3) := by decide +kernel
theorem dX6_readTold_8 : decode cX6_readTold 8 = .ok (.istore_n 2, 1) := by decide +kernel
theorem dX6_readTold_9 : decode cX6_readTold 9 = .ok (.aload_n 0, 1) := by decide +kernel
theorem dX6_readTold_10 : decode cX6_readTold 10 = .ok (.aload_n 0, 1) := by decide +kernel
theorem dX6_readTold_11 : decode cX6_readTold 11 = .ok (.getfield 19, 3) := by decide +kernel
theorem dX6_readTold_14 : decode cX6_readTold 14 = .ok (.invokevirtual 75, 3) := by decide +kernel
theorem dX6_readTold_17 : decode cX6_readTold 17 = .ok (.ifCond .ne 10, 3) := by decide +kernel
theorem dX6_readTold_20 : decode cX6_readTold 20 = .ok (.aload_n 0, 1) := by decide +kernel
theorem dX6_readTold_21 : decode cX6_readTold 21 = .ok (.iload_n 2, 1) := by decide +kernel
theorem dX6_readTold_22 : decode cX6_readTold 22 = .ok (.iconst 0, 1) := by decide +kernel
theorem dX6_readTold_23 : decode cX6_readTold 23 = .ok (.invokevirtual 45, 3) := by decide +kernel
theorem dX6_readTold_26 : decode cX6_readTold 26 = .ok (.ireturn, 1) := by decide +kernel
theorem dX6_readTold_27 : decode cX6_readTold 27 = .ok (.aload_n 0, 1) := by decide +kernel
theorem dX6_readTold_28 : decode cX6_readTold 28 = .ok (.invokevirtual 78, 3) := by decide +kernel
theorem dX6_readTold_31 : decode cX6_readTold 31 = .ok (.istore_n 3, 1) := by decide +kernel
theorem dX6_readTold_32 : decode cX6_readTold 32 = .ok (.iload_n 3, 1) := by decide +kernel
theorem dX6_readTold_33 : decode cX6_readTold 33 = .ok (.getstatic 82, 3) := by decide +kernel
theorem dX6_readTold_36 : decode cX6_readTold 36 = .ok (.iload_n 1, 1) := by decide +kernel
theorem dX6_readTold_37 : decode cX6_readTold 37 = .ok (.iaload, 1) := by decide +kernel
theorem dX6_readTold_38 : decode cX6_readTold 38 = .ok (.if_icmp .lt 12, 3) := by decide +kernel
theorem dX6_readTold_41 : decode cX6_readTold 41 = .ok (.iload_n 3, 1) := by decide +kernel
theorem dX6_readTold_42 : decode cX6_readTold 42 = .ok (.getstatic 86, 3) := by decide +kernel
theorem dX6_readTold_45 : decode cX6_readTold 45 = .ok (.iload_n 1, 1) := by decide +kernel
theorem dX6_readTold_46 : decode cX6_readTold 46 = .ok (.iaload, 1) := by decide +kernel
theorem dX6_readTold_47 : decode cX6_readTold 47 = .ok (.if_icmp .le 10, 3) := by decide +kernel
theorem dX6_readTold_50 : decode cX6_readTold 50 = .ok (.aload_n 0, 1) := by decide +kernel
theorem dX6_readTold_51 : decode cX6_readTold 51 = .ok (.iload_n 2, 1) := by decide +kernel
theorem dX6_readTold_52 : decode cX6_readTold 52 = .ok (.iconst 1, 1) := by decide +kernel
theorem dX6_readTold_53 : decode cX6_readTold 53 = .ok (.invokevirtual 45, 3) := by decide +kernel
theorem dX6_readTold_56 : decode cX6_readTold 56 = .ok (.ireturn, 1) := by decide +kernel
theorem dX6_readTold_57 : decode cX6_readTold 57 = .ok (.aload_n 0, 1) := by decide +kernel
theorem dX6_readTold_58 : decode cX6_readTold 58 = .ok (.getfield 31, 3) := by decide +kernel
theorem dX6_readTold_61 : decode cX6_readTold 61 = .ok (.getfield 89, 3) := by decide +kernel
theorem dX6_readTold_64 : decode cX6_readTold 64 = .ok (.iload_n 1, 1) := by decide +kernel
theorem dX6_readTold_65 : decode cX6_readTold 65 = .ok (.iload_n 3, 1) := by decide +kernel
theorem dX6_readTold_66 : decode cX6_readTold 66 = .ok (.iastore, 1) := by decide +kernel
theorem dX6_readTold_67 : decode cX6_readTold 67 = .ok (.iconst 1, 1) := by decide +kernel
theorem dX6_readTold_68 : decode cX6_readTold 68 = .ok (.ireturn, 1) := by decide +kernel
theorem dX6_readEither_0 : decode cX6_readEither 0 = .ok (.iconst 0, 1) := by decide +kernel
theorem dX6_readEither_1 : decode cX6_readEither 1 = .ok (.istore_n 2, 1) := by decide +kernel
theorem dX6_readEither_2 : decode cX6_readEither 2 = .ok (.iconst 0, 1) := by decide +kernel
theorem dX6_readEither_3 : decode cX6_readEither 3 = .ok (.istore_n 3, 1) := by decide +kernel
theorem dX6_readEither_4 : decode cX6_readEither 4 = .ok (.iconst 0, 1) := by decide +kernel
theorem dX6_readEither_5 : decode cX6_readEither 5 = .ok (.istore 4, 2) := by decide +kernel
theorem dX6_readEither_7 : decode cX6_readEither 7 = .ok (.iload 4, 2) := by decide +kernel
theorem dX6_readEither_9 : decode cX6_readEither 9 = .ok (.aload_n 0, 1) := by decide +kernel
theorem dX6_readEither_10 : decode cX6_readEither 10 = .ok (.getfield 15, 3) := by decide +kernel
theorem dX6_readEither_13 : decode cX6_readEither 13 = .ok (.if_icmp .gt 89, 3) := by decide +kernel
theorem dX6_readEither_16 : decode cX6_readEither 16 = .ok (.aload_n 0, 1) := by decide +kernel
theorem dX6_readEither_17 : decode cX6_readEither 17 = .ok (.iload_n 1, 1) := by decide +kernel
theorem dX6_readEither_18 : decode cX6_readEither 18 = .ok (.invokevirtual 92, 3) := by decide +kernel
theorem dX6_readEither_21 : decode cX6_readEither 21 = .ok (.ifCond .eq 81, 3) := by decide +kernel
theorem dX6_readEither_24 : decode cX6_readEither 24 = .ok (.iload_n 2, 1) := by decide +kernel
theorem dX6_readEither_25 : decode cX6_readEither 25 = .ok (.ifCond .eq 11, 3) := by decide +kernel
theorem dX6_readEither_28 : decode cX6_readEither 28 = .ok (.aload_n 0, 1) := by decide +kernel
theorem dX6_readEither_29 : decode cX6_readEither 29 = .ok (.getfield 31, 3) := by decide +kernel
theorem dX6_readEither_32 : decode cX6_readEither 32 = .ok (.iconst (-1), 1) := by decide +kernel
theorem dX6_readEither_33 : decode cX6_readEither 33 = .ok (.invokevirtual 95, 3) := by decide +kernel
theorem dX6_readEither_36 : decode cX6_readEither 36 = .ok (.aload_n 0, 1) := by decide +kernel
theorem dX6_readEither_37 : decode cX6_readEither 37 = .ok (.ldc 99, 2) := by decide +kernel
theorem dX6_readEither_39 : decode cX6_readEither 39 = .ok (.invokevirtual 101, 3) := by decide +kernel
theorem dX6_readEither_42 : decode cX6_readEither 42 = .ok (.istore_n 2, 1) := by decide +kernel
theorem dX6_readEither_43 : decode cX6_readEither 43 = .ok (.iload_n 2, 1) := by decide +kernel
theorem dX6_readEither_44 : decode cX6_readEither 44 = .ok (.ifCond .eq 16, 3) := by decide +kernel
theorem dX6_readEither_47 : decode cX6_readEither 47 = .ok (.aload_n 0, 1) := by decide +kernel
theorem dX6_readEither_48 : decode cX6_readEither 48 = .ok (.dup, 1) := by decide +kernel
theorem dX6_readEither_49 : decode cX6_readEither 49 = .ok (.getfield 19, 3) := by decide +kernel
theorem dX6_readEither_52 : decode cX6_readEither 52 = .ok (.iconst 3, 1) := by decide +kernel
theorem dX6_readEither_53 : decode cX6_readEither 53 = .ok (.iadd, 1) := by decide +kernel
theorem dX6_readEither_54 : decode cX6_readEither 54 = .ok (.putfield 19, 3) := by decide +kernel
theorem dX6_readEither_57 : decode cX6_readEither 57 = .ok (.goto 39, 3) := by decide +kernel
theorem dX6_readEither_60 : decode cX6_readEither 60 = .ok (.iload_n 3, 1) := by decide +kernel
theorem dX6_readEither_61 : decode cX6_readEither 61 = .ok (.ifCond .eq 12, 3) := by decide +kernel
theorem dX6_readEither_64 : decode cX6_readEither 64 = .ok (.aload_n 0, 1) := by decide +kernel
theorem dX6_readEither_65 : decode cX6_readEither 65 = .ok (.getfield 31, 3) := by decide +kernel
theorem dX6_readEither_68 : decode cX6_readEither 68 = .ok (.bipush (-2), 2) := by decide +kernel
theorem dX6_readEither_70 : decode cX6_readEither 70 = .ok (.invokevirtual 95, 3) := by decide +kernel
theorem dX6_readEither_73 : decode cX6_readEither 73 = .ok (.aload_n 0, 1) := by decide +kernel
theorem dX6_readEither_74 : decode cX6_readEither 74 = .ok (.ldc 105, 2) := by decide +kernel
theorem dX6_readEither_76 : decode cX6_readEither 76 = .ok (.invokevirtual 101, 3) := by decide +kernel
theorem dX6_readEither_79 : decode cX6_readEither 79 = .ok (.istore_n 3, 1) := by decide +kernel
theorem dX6_readEither_80 : decode cX6_readEither 80 = .ok (.iload_n 3, 1) := by decide +kernel
theorem dX6_readEither_81 : decode cX6_readEither 81 = .ok (.ifCond .ne 5, 3) := by decide +kernel
theorem dX6_readEither_84 : decode cX6_readEither 84 = .ok (.iconst 1, 1) := by decide +kernel
theorem dX6_readEither_85 : decode cX6_readEither 85 = .ok (.ireturn, 1) := by decide +kernel
theorem dX6_readEither_86 : decode cX6_readEither 86 = .ok (.aload_n 0, 1) := by decide +kernel
theorem dX6_readEither_87 : decode cX6_readEither 87 = .ok (.dup, 1) := by decide +kernel
theorem dX6_readEither_88 : decode cX6_readEither 88 = .ok (.getfield 19, 3) := by decide +kernel
theorem dX6_readEither_91 : decode cX6_readEither 91 = .ok (.iconst 2, 1) := by decide +kernel
theorem dX6_readEither_92 : decode cX6_readEither 92 = .ok (.iadd, 1) := by decide +kernel
theorem dX6_readEither_93 : decode cX6_readEither 93 = .ok (.putfield 19, 3) := by decide +kernel
theorem dX6_readEither_96 : decode cX6_readEither 96 = .ok (.iinc 4 1, 3) := by decide +kernel
theorem dX6_readEither_99 : decode cX6_readEither 99 = .ok (.goto (-92), 3) := by decide +kernel
theorem dX6_readEither_102 : decode cX6_readEither 102 = .ok (.iconst 0, 1) := by decide +kernel
theorem dX6_readEither_103 : decode cX6_readEither 103 = .ok (.ireturn, 1) := by decide +kernel
theorem dX6_readOne_0 : decode cX6_readOne 0 = .ok (.aload_n 0, 1) := by decide +kernel
theorem dX6_readOne_1 : decode cX6_readOne 1 = .ok (.ldc 107, 2) := by decide +kernel
theorem dX6_readOne_3 : decode cX6_readOne 3 = .ok (.invokevirtual 101, 3) := by decide +kernel
theorem dX6_readOne_6 : decode cX6_readOne 6 = .ok (.istore_n 2, 1) := by decide +kernel
theorem dX6_readOne_7 : decode cX6_readOne 7 = .ok (.iload_n 2, 1) := by decide +kernel
theorem dX6_readOne_8 : decode cX6_readOne 8 = .ok (.ifCond .ne 17, 3) := by decide +kernel
theorem dX6_readOne_11 : decode cX6_readOne 11 = .ok (.aload_n 0, 1) := by decide +kernel
theorem dX6_readOne_12 : decode cX6_readOne 12 = .ok (.bipush 40, 2) := by decide +kernel
theorem dX6_readOne_14 : decode cX6_readOne 14 = .ok (.invokevirtual 109, 3) := by decide +kernel
theorem dX6_readOne_17 : decode cX6_readOne 17 = .ok (.ifCond .ne 8, 3) := by decide +kernel
theorem dX6_readOne_20 : decode cX6_readOne 20 = .ok (.aload_n 0, 1) := by decide +kernel
theorem dX6_readOne_21 : decode cX6_readOne 21 = .ok (.invokevirtual 113, 3) := by decide +kernel
theorem dX6_readOne_24 : decode cX6_readOne 24 = .ok (.ireturn, 1) := by decide +kernel
theorem dX6_readOne_25 : decode cX6_readOne 25 = .ok (.iload_n 1, 1) := by decide +kernel
theorem dX6_readOne_26 : decode cX6_readOne 26 = .ok (.bipush 8, 2) := by decide +kernel
theorem dX6_readOne_28 : decode cX6_readOne 28 = .ok (.if_icmp .lt 13, 3) := by decide +kernel
theorem dX6_readOne_31 : decode cX6_readOne 31 = .ok (.aload_n 0, 1) := by decide +kernel
theorem dX6_readOne_32 : decode cX6_readOne 32 = .ok (.aload_n 0, 1) := by decide +kernel
theorem dX6_readOne_33 : decode cX6_readOne 33 = .ok (.getfield 19, 3) := by decide +kernel
theorem dX6_readOne_36 : decode cX6_readOne 36 = .ok (.iconst 3, 1) := by decide +kernel
theorem dX6_readOne_37 : decode cX6_readOne 37 = .ok (.invokevirtual 45, 3) := by decide +kernel
theorem dX6_readOne_40 : decode cX6_readOne 40 = .ok (.ireturn, 1) := by decide +kernel
theorem dX6_readOne_41 : decode cX6_readOne 41 = .ok (.iload_n 2, 1) := by decide +kernel
theorem dX6_readOne_42 : decode cX6_readOne 42 = .ok (.ifCond .eq 36, 3) := by decide +kernel
theorem dX6_readOne_45 : decode cX6_readOne 45 = .ok (.aload_n 0, 1) := by decide +kernel
theorem dX6_readOne_46 : decode cX6_readOne 46 = .ok (.dup, 1) := by decide +kernel
theorem dX6_readOne_47 : decode cX6_readOne 47 = .ok (.getfield 19, 3) := by decide +kernel
theorem dX6_readOne_50 : decode cX6_readOne 50 = .ok (.iconst 3, 1) := by decide +kernel
theorem dX6_readOne_51 : decode cX6_readOne 51 = .ok (.iadd, 1) := by decide +kernel
theorem dX6_readOne_52 : decode cX6_readOne 52 = .ok (.putfield 19, 3) := by decide +kernel
theorem dX6_readOne_55 : decode cX6_readOne 55 = .ok (.aload_n 0, 1) := by decide +kernel
theorem dX6_readOne_56 : decode cX6_readOne 56 = .ok (.iload_n 1, 1) := by decide +kernel
theorem dX6_readOne_57 : decode cX6_readOne 57 = .ok (.iconst 1, 1) := by decide +kernel
theorem dX6_readOne_58 : decode cX6_readOne 58 = .ok (.iadd, 1) := by decide +kernel
theorem dX6_readOne_59 : decode cX6_readOne 59 = .ok (.invokevirtual 92, 3) := by decide +kernel
theorem dX6_readOne_62 : decode cX6_readOne 62 = .ok (.ifCond .ne 5, 3) := by decide +kernel
theorem dX6_readOne_65 : decode cX6_readOne 65 = .ok (.iconst 0, 1) := by decide +kernel
theorem dX6_readOne_66 : decode cX6_readOne 66 = .ok (.ireturn, 1) := by decide +kernel
theorem dX6_readOne_67 : decode cX6_readOne 67 = .ok (.aload_n 0, 1) := by decide +kernel
theorem dX6_readOne_68 : decode cX6_readOne 68 = .ok (.getfield 31, 3) := by decide +kernel
theorem dX6_readOne_71 : decode cX6_readOne 71 = .ok (.bipush (-3), 2) := by decide +kernel
theorem dX6_readOne_73 : decode cX6_readOne 73 = .ok (.invokevirtual 95, 3) := by decide +kernel
theorem dX6_readOne_76 : decode cX6_readOne 76 = .ok (.iconst 1, 1) := by decide +kernel
theorem dX6_readOne_77 : decode cX6_readOne 77 = .ok (.ireturn, 1) := by decide +kernel
theorem dX6_readOne_78 : decode cX6_readOne 78 = .ok (.aload_n 0, 1) := by decide +kernel
theorem dX6_readOne_79 : decode cX6_readOne 79 = .ok (.dup, 1) := by decide +kernel
theorem dX6_readOne_80 : decode cX6_readOne 80 = .ok (.getfield 19, 3) := by decide +kernel
theorem dX6_readOne_83 : decode cX6_readOne 83 = .ok (.iconst 1, 1) := by decide +kernel
theorem dX6_readOne_84 : decode cX6_readOne 84 = .ok (.iadd, 1) := by decide +kernel
theorem dX6_readOne_85 : decode cX6_readOne 85 = .ok (.putfield 19, 3) := by decide +kernel
theorem dX6_readOne_88 : decode cX6_readOne 88 = .ok (.aload_n 0, 1) := by decide +kernel
theorem dX6_readOne_89 : decode cX6_readOne 89 = .ok (.iload_n 1, 1) := by decide +kernel
theorem dX6_readOne_90 : decode cX6_readOne 90 = .ok (.iconst 1, 1) := by decide +kernel
theorem dX6_readOne_91 : decode cX6_readOne 91 = .ok (.iadd, 1) := by decide +kernel
theorem dX6_readOne_92 : decode cX6_readOne 92 = .ok (.invokevirtual 66, 3) := by decide +kernel
theorem dX6_readOne_95 : decode cX6_readOne 95 = .ok (.ifCond .ne 5, 3) := by decide +kernel
theorem dX6_readOne_98 : decode cX6_readOne 98 = .ok (.iconst 0, 1) := by decide +kernel
theorem dX6_readOne_99 : decode cX6_readOne 99 = .ok (.ireturn, 1) := by decide +kernel
theorem dX6_readOne_100 : decode cX6_readOne 100 = .ok (.aload_n 0, 1) := by decide +kernel
theorem dX6_readOne_101 : decode cX6_readOne 101 = .ok (.invokevirtual 35, 3) := by decide +kernel
theorem dX6_readOne_104 : decode cX6_readOne 104 = .ok (.aload_n 0, 1) := by decide +kernel
theorem dX6_readOne_105 : decode cX6_readOne 105 = .ok (.bipush 41, 2) := by decide +kernel
theorem dX6_readOne_107 : decode cX6_readOne 107 = .ok (.invokevirtual 109, 3) := by decide +kernel
theorem dX6_readOne_110 : decode cX6_readOne 110 = .ok (.ifCond .ne 13, 3) := by decide +kernel
theorem dX6_readOne_113 : decode cX6_readOne 113 = .ok (.aload_n 0, 1) := by decide +kernel
theorem dX6_readOne_114 : decode cX6_readOne 114 = .ok (.aload_n 0, 1) := by decide +kernel
theorem dX6_readOne_115 : decode cX6_readOne 115 = .ok (.getfield 19, 3) := by decide +kernel
theorem dX6_readOne_118 : decode cX6_readOne 118 = .ok (.iconst 0, 1) := by decide +kernel
theorem dX6_readOne_119 : decode cX6_readOne 119 = .ok (.invokevirtual 45, 3) := by decide +kernel
theorem dX6_readOne_122 : decode cX6_readOne 122 = .ok (.ireturn, 1) := by decide +kernel
theorem dX6_readOne_123 : decode cX6_readOne 123 = .ok (.aload_n 0, 1) := by decide +kernel
theorem dX6_readOne_124 : decode cX6_readOne 124 = .ok (.dup, 1) := by decide +kernel
theorem dX6_readOne_125 : decode cX6_readOne 125 = .ok (.getfield 19, 3) := by decide +kernel
theorem dX6_readOne_128 : decode cX6_readOne 128 = .ok (.iconst 1, 1) := by decide +kernel
theorem dX6_readOne_129 : decode cX6_readOne 129 = .ok (.iadd, 1) := by decide +kernel
theorem dX6_readOne_130 : decode cX6_readOne 130 = .ok (.putfield 19, 3) := by decide +kernel
theorem dX6_readOne_133 : decode cX6_readOne 133 = .ok (.iconst 1, 1) := by decide +kernel
theorem dX6_readOne_134 : decode cX6_readOne 134 = .ok (.ireturn, 1) := by decide +kernel
theorem dX6_readTerm_0 : decode cX6_readTerm 0 = .ok (.aload_n 0, 1) := by decide +kernel
theorem dX6_readTerm_1 : decode cX6_readTerm 1 = .ok (.invokevirtual 35, 3) := by decide +kernel
theorem dX6_readTerm_4 : decode cX6_readTerm 4 = .ok (.aload_n 0, 1) := by decide +kernel
theorem dX6_readTerm_5 : decode cX6_readTerm 5 = .ok (.getfield 19, 3) := by decide +kernel
theorem dX6_readTerm_8 : decode cX6_readTerm 8 = .ok (.istore_n 1, 1) := by decide +kernel
theorem dX6_readTerm_9 : decode cX6_readTerm 9 = .ok (.aload_n 0, 1) := by decide +kernel
theorem dX6_readTerm_10 : decode cX6_readTerm 10 = .ok (.ldc 116, 2) := by decide +kernel
theorem dX6_readTerm_12 : decode cX6_readTerm 12 = .ok (.invokevirtual 51, 3) := by decide +kernel
theorem dX6_readTerm_15 : decode cX6_readTerm 15 = .ok (.istore_n 2, 1) := by decide +kernel
theorem dX6_readTerm_16 : decode cX6_readTerm 16 = .ok (.iload_n 2, 1) := by decide +kernel
theorem dX6_readTerm_17 : decode cX6_readTerm 17 = .ok (.ifCond .ge 10, 3) := by decide +kernel
theorem dX6_readTerm_20 : decode cX6_readTerm 20 = .ok (.aload_n 0, 1) := by decide +kernel
theorem dX6_readTerm_21 : decode cX6_readTerm 21 = .ok (.iload_n 1, 1) := by decide +kernel
theorem dX6_readTerm_22 : decode cX6_readTerm 22 = .ok (.iconst 0, 1) := by decide +kernel
theorem dX6_readTerm_23 : decode cX6_readTerm 23 = .ok (.invokevirtual 45, 3) := by decide +kernel
theorem dX6_readTerm_26 : decode cX6_readTerm 26 = .ok (.ireturn, 1) := by decide +kernel
theorem dX6_readTerm_27 : decode cX6_readTerm 27 = .ok (.aload_n 0, 1) := by decide +kernel
theorem dX6_readTerm_28 : decode cX6_readTerm 28 = .ok (.getfield 28, 3) := by decide +kernel
theorem dX6_readTerm_31 : decode cX6_readTerm 31 = .ok (.bipush 20, 2) := by decide +kernel
theorem dX6_readTerm_33 : decode cX6_readTerm 33 = .ok (.if_icmp .lt 10, 3) := by decide +kernel
theorem dX6_readTerm_36 : decode cX6_readTerm 36 = .ok (.aload_n 0, 1) := by decide +kernel
theorem dX6_readTerm_37 : decode cX6_readTerm 37 = .ok (.iload_n 1, 1) := by decide +kernel
theorem dX6_readTerm_38 : decode cX6_readTerm 38 = .ok (.iconst 4, 1) := by decide +kernel
theorem dX6_readTerm_39 : decode cX6_readTerm 39 = .ok (.invokevirtual 45, 3) := by decide +kernel
theorem dX6_readTerm_42 : decode cX6_readTerm 42 = .ok (.ireturn, 1) := by decide +kernel
theorem dX6_readTerm_43 : decode cX6_readTerm 43 = .ok (.aload_n 0, 1) := by decide +kernel
theorem dX6_readTerm_44 : decode cX6_readTerm 44 = .ok (.dup, 1) := by decide +kernel
theorem dX6_readTerm_45 : decode cX6_readTerm 45 = .ok (.getfield 28, 3) := by decide +kernel
theorem dX6_readTerm_48 : decode cX6_readTerm 48 = .ok (.iconst 1, 1) := by decide +kernel
theorem dX6_readTerm_49 : decode cX6_readTerm 49 = .ok (.iadd, 1) := by decide +kernel
theorem dX6_readTerm_50 : decode cX6_readTerm 50 = .ok (.putfield 28, 3) := by decide +kernel
theorem dX6_readTerm_53 : decode cX6_readTerm 53 = .ok (.aload_n 0, 1) := by decide +kernel
theorem dX6_readTerm_54 : decode cX6_readTerm 54 = .ok (.invokevirtual 118, 3) := by decide +kernel
theorem dX6_readTerm_57 : decode cX6_readTerm 57 = .ok (.istore_n 3, 1) := by decide +kernel
theorem dX6_readTerm_58 : decode cX6_readTerm 58 = .ok (.iload_n 3, 1) := by decide +kernel
theorem dX6_readTerm_59 : decode cX6_readTerm 59 = .ok (.ifCond .ne 13, 3) := by decide +kernel
theorem dX6_readTerm_62 : decode cX6_readTerm 62 = .ok (.aload_n 0, 1) := by decide +kernel
theorem dX6_readTerm_63 : decode cX6_readTerm 63 = .ok (.aload_n 0, 1) := by decide +kernel
theorem dX6_readTerm_64 : decode cX6_readTerm 64 = .ok (.getfield 19, 3) := by decide +kernel
theorem dX6_readTerm_67 : decode cX6_readTerm 67 = .ok (.iconst 0, 1) := by decide +kernel
theorem dX6_readTerm_68 : decode cX6_readTerm 68 = .ok (.invokevirtual 45, 3) := by decide +kernel
theorem dX6_readTerm_71 : decode cX6_readTerm 71 = .ok (.ireturn, 1) := by decide +kernel
theorem dX6_readTerm_72 : decode cX6_readTerm 72 = .ok (.aload_n 0, 1) := by decide +kernel
theorem dX6_readTerm_73 : decode cX6_readTerm 73 = .ok (.invokevirtual 35, 3) := by decide +kernel
theorem dX6_readTerm_76 : decode cX6_readTerm 76 = .ok (.aload_n 0, 1) := by decide +kernel
theorem dX6_readTerm_77 : decode cX6_readTerm 77 = .ok (.getfield 19, 3) := by decide +kernel
theorem dX6_readTerm_80 : decode cX6_readTerm 80 = .ok (.istore_n 1, 1) := by decide +kernel
theorem dX6_readTerm_81 : decode cX6_readTerm 81 = .ok (.aload_n 0, 1) := by decide +kernel
theorem dX6_readTerm_82 : decode cX6_readTerm 82 = .ok (.aload_n 0, 1) := by decide +kernel
theorem dX6_readTerm_83 : decode cX6_readTerm 83 = .ok (.getfield 19, 3) := by decide +kernel
theorem dX6_readTerm_86 : decode cX6_readTerm 86 = .ok (.invokevirtual 75, 3) := by decide +kernel
theorem dX6_readTerm_89 : decode cX6_readTerm 89 = .ok (.ifCond .ne 7, 3) := by decide +kernel
theorem dX6_readTerm_92 : decode cX6_readTerm 92 = .ok (.iconst 1, 1) := by decide +kernel
theorem dX6_readTerm_93 : decode cX6_readTerm 93 = .ok (.goto 4, 3) := by decide +kernel
theorem dX6_readTerm_96 : decode cX6_readTerm 96 = .ok (.iconst 0, 1) := by decide +kernel
theorem dX6_readTerm_97 : decode cX6_readTerm 97 = .ok (.istore 4, 2) := by decide +kernel
theorem dX6_readTerm_99 : decode cX6_readTerm 99 = .ok (.iload 4, 2) := by decide +kernel
theorem dX6_readTerm_101 : decode cX6_readTerm 101 = .ok (.ifCond .eq 12, 3) := by decide +kernel
theorem dX6_readTerm_104 : decode cX6_readTerm 104 = .ok (.aload_n 0, 1) := by decide +kernel
theorem dX6_readTerm_105 : decode cX6_readTerm 105 = .ok (.ldc 116, 2) := by decide +kernel
theorem dX6_readTerm_107 : decode cX6_readTerm 107 = .ok (.invokevirtual 51, 3) := by decide +kernel
theorem dX6_readTerm_110 : decode cX6_readTerm 110 = .ok (.goto 7, 3) := by decide +kernel
theorem dX6_readTerm_113 : decode cX6_readTerm 113 = .ok (.aload_n 0, 1) := by decide +kernel
theorem dX6_readTerm_114 : decode cX6_readTerm 114 = .ok (.invokevirtual 78, 3) := by decide +kernel
theorem dX6_readTerm_117 : decode cX6_readTerm 117 = .ok (.istore 5, 2) := by decide +kernel
theorem dX6_readTerm_119 : decode cX6_readTerm 119 = .ok (.iload 5, 2) := by decide +kernel
theorem dX6_readTerm_121 : decode cX6_readTerm 121 = .ok (.ifCond .ge 19, 3) := by decide +kernel
theorem dX6_readTerm_124 : decode cX6_readTerm 124 = .ok (.aload_n 0, 1) := by decide +kernel
theorem dX6_readTerm_125 : decode cX6_readTerm 125 = .ok (.iload_n 1, 1) := by decide +kernel
theorem dX6_readTerm_126 : decode cX6_readTerm 126 = .ok (.iload 4, 2) := by decide +kernel
theorem dX6_readTerm_128 : decode cX6_readTerm 128 = .ok (.ifCond .eq 7, 3) := by decide +kernel
theorem dX6_readTerm_131 : decode cX6_readTerm 131 = .ok (.iconst 0, 1) := by decide +kernel
theorem dX6_readTerm_132 : decode cX6_readTerm 132 = .ok (.goto 4, 3) := by decide +kernel
theorem dX6_readTerm_135 : decode cX6_readTerm 135 = .ok (.iconst 1, 1) := by decide +kernel
theorem dX6_readTerm_136 : decode cX6_readTerm 136 = .ok (.invokevirtual 45, 3) := by decide +kernel
theorem dX6_readTerm_139 : decode cX6_readTerm 139 = .ok (.ireturn, 1) := by decide +kernel
theorem dX6_readTerm_140 : decode cX6_readTerm 140 = .ok (.aload_n 0, 1) := by decide +kernel
theorem dX6_readTerm_141 : decode cX6_readTerm 141 = .ok (.getfield 31, 3) := by decide +kernel
theorem dX6_readTerm_144 : decode cX6_readTerm 144 = .ok (.iload_n 2, 1) := by decide +kernel
theorem dX6_readTerm_145 : decode cX6_readTerm 145 = .ok (.iload_n 3, 1) := by decide +kernel
theorem dX6_readTerm_146 : decode cX6_readTerm 146 = .ok (.iload 4, 2) := by decide +kernel
theorem dX6_readTerm_148 : decode cX6_readTerm 148 = .ok (.iload 5, 2) := by decide +kernel
theorem dX6_readTerm_150 : decode cX6_readTerm 150 = .ok (.invokestatic 121, 3) := by decide +kernel
theorem dX6_readTerm_153 : decode cX6_readTerm 153 = .ok (.invokevirtual 95, 3) := by decide +kernel
theorem dX6_readTerm_156 : decode cX6_readTerm 156 = .ok (.iconst 1, 1) := by decide +kernel
theorem dX6_readTerm_157 : decode cX6_readTerm 157 = .ok (.ireturn, 1) := by decide +kernel
theorem dX6_readSign_0 : decode cX6_readSign 0 = .ok (.aload_n 0, 1) := by decide +kernel
theorem dX6_readSign_1 : decode cX6_readSign 1 = .ok (.invokevirtual 35, 3) := by decide +kernel
theorem dX6_readSign_4 : decode cX6_readSign 4 = .ok (.aload_n 0, 1) := by decide +kernel
theorem dX6_readSign_5 : decode cX6_readSign 5 = .ok (.bipush 60, 2) := by decide +kernel
theorem dX6_readSign_7 : decode cX6_readSign 7 = .ok (.invokevirtual 109, 3) := by decide +kernel
theorem dX6_readSign_10 : decode cX6_readSign 10 = .ok (.ifCond .eq 7, 3) := by decide +kernel
theorem dX6_readSign_13 : decode cX6_readSign 13 = .ok (.iconst 1, 1) := by decide +kernel
theorem dX6_readSign_14 : decode cX6_readSign 14 = .ok (.goto 17, 3) := by decide +kernel
theorem dX6_readSign_17 : decode cX6_readSign 17 = .ok (.aload_n 0, 1) := by decide +kernel
theorem dX6_readSign_18 : decode cX6_readSign 18 = .ok (.bipush 62, 2) := by decide +kernel
theorem dX6_readSign_20 : decode cX6_readSign 20 = .ok (.invokevirtual 109, 3) := by decide +kernel
theorem dX6_readSign_23 : decode cX6_readSign 23 = .ok (.ifCond .eq 7, 3) := by decide +kernel
theorem dX6_readSign_26 : decode cX6_readSign 26 = .ok (.iconst 4, 1) := by decide +kernel
theorem dX6_readSign_27 : decode cX6_readSign 27 = .ok (.goto 4, 3) := by decide +kernel
theorem dX6_readSign_30 : decode cX6_readSign 30 = .ok (.iconst 0, 1) := by decide +kernel
theorem dX6_readSign_31 : decode cX6_readSign 31 = .ok (.istore_n 1, 1) := by decide +kernel
theorem dX6_readSign_32 : decode cX6_readSign 32 = .ok (.iload_n 1, 1) := by decide +kernel
theorem dX6_readSign_33 : decode cX6_readSign 33 = .ok (.ifCond .eq 13, 3) := by decide +kernel
theorem dX6_readSign_36 : decode cX6_readSign 36 = .ok (.aload_n 0, 1) := by decide +kernel
theorem dX6_readSign_37 : decode cX6_readSign 37 = .ok (.dup, 1) := by decide +kernel
theorem dX6_readSign_38 : decode cX6_readSign 38 = .ok (.getfield 19, 3) := by decide +kernel
theorem dX6_readSign_41 : decode cX6_readSign 41 = .ok (.iconst 1, 1) := by decide +kernel
theorem dX6_readSign_42 : decode cX6_readSign 42 = .ok (.iadd, 1) := by decide +kernel
theorem dX6_readSign_43 : decode cX6_readSign 43 = .ok (.putfield 19, 3) := by decide +kernel
theorem dX6_readSign_46 : decode cX6_readSign 46 = .ok (.aload_n 0, 1) := by decide +kernel
theorem dX6_readSign_47 : decode cX6_readSign 47 = .ok (.bipush 61, 2) := by decide +kernel
theorem dX6_readSign_49 : decode cX6_readSign 49 = .ok (.invokevirtual 109, 3) := by decide +kernel
theorem dX6_readSign_52 : decode cX6_readSign 52 = .ok (.ifCond .eq 17, 3) := by decide +kernel
theorem dX6_readSign_55 : decode cX6_readSign 55 = .ok (.aload_n 0, 1) := by decide +kernel
theorem dX6_readSign_56 : decode cX6_readSign 56 = .ok (.dup, 1) := by decide +kernel
theorem dX6_readSign_57 : decode cX6_readSign 57 = .ok (.getfield 19, 3) := by decide +kernel
theorem dX6_readSign_60 : decode cX6_readSign 60 = .ok (.iconst 1, 1) := by decide +kernel
theorem dX6_readSign_61 : decode cX6_readSign 61 = .ok (.iadd, 1) := by decide +kernel
theorem dX6_readSign_62 : decode cX6_readSign 62 = .ok (.putfield 19, 3) := by decide +kernel
theorem dX6_readSign_65 : decode cX6_readSign 65 = .ok (.iload_n 1, 1) := by decide +kernel
theorem dX6_readSign_66 : decode cX6_readSign 66 = .ok (.iconst 2, 1) := by decide +kernel
theorem dX6_readSign_67 : decode cX6_readSign 67 = .ok (.ior, 1) := by decide +kernel
theorem dX6_readSign_68 : decode cX6_readSign 68 = .ok (.istore_n 1, 1) := by decide +kernel
theorem dX6_readSign_69 : decode cX6_readSign 69 = .ok (.iload_n 1, 1) := by decide +kernel
theorem dX6_readSign_70 : decode cX6_readSign 70 = .ok (.ireturn, 1) := by decide +kernel
theorem dX6_readWord_0 : decode cX6_readWord 0 = .ok (.aload_n 0, 1) := by decide +kernel
theorem dX6_readWord_1 : decode cX6_readWord 1 = .ok (.invokevirtual 35, 3) := by decide +kernel
theorem dX6_readWord_4 : decode cX6_readWord 4 = .ok (.aload_n 0, 1) := by decide +kernel
theorem dX6_readWord_5 : decode cX6_readWord 5 = .ok (.invokevirtual 125, 3) := by decide +kernel
theorem dX6_readWord_8 : decode cX6_readWord 8 = .ok (.istore_n 2, 1) := by decide +kernel
theorem dX6_readWord_9 : decode cX6_readWord 9 = .ok (.iconst 0, 1) := by decide +kernel
theorem dX6_readWord_10 : decode cX6_readWord 10 = .ok (.istore_n 3, 1) := by decide +kernel
theorem dX6_readWord_11 : decode cX6_readWord 11 = .ok (.iload_n 2, 1) := by decide +kernel
theorem dX6_readWord_12 : decode cX6_readWord 12 = .ok (.aload_n 0, 1) := by decide +kernel
theorem dX6_readWord_13 : decode cX6_readWord 13 = .ok (.getfield 19, 3) := by decide +kernel
theorem dX6_readWord_16 : decode cX6_readWord 16 = .ok (.if_icmp .le 40, 3) := by decide +kernel
theorem dX6_readWord_19 : decode cX6_readWord 19 = .ok (.iload_n 3, 1) := by decide +kernel
theorem dX6_readWord_20 : decode cX6_readWord 20 = .ok (.bipush 8, 2) := by decide +kernel
theorem dX6_readWord_22 : decode cX6_readWord 22 = .ok (.iadd, 1) := by decide +kernel
theorem dX6_readWord_23 : decode cX6_readWord 23 = .ok (.aload_n 1, 1) := by decide +kernel
theorem dX6_readWord_24 : decode cX6_readWord 24 = .ok (.invokevirtual 128, 3) := by decide +kernel
theorem dX6_readWord_27 : decode cX6_readWord 27 = .ok (.if_icmp .gt 29, 3) := by decide +kernel
theorem dX6_readWord_30 : decode cX6_readWord 30 = .ok (.aload_n 0, 1) := by decide +kernel
theorem dX6_readWord_31 : decode cX6_readWord 31 = .ok (.aload_n 1, 1) := by decide +kernel
theorem dX6_readWord_32 : decode cX6_readWord 32 = .ok (.iload_n 3, 1) := by decide +kernel
theorem dX6_readWord_33 : decode cX6_readWord 33 = .ok (.iload_n 2, 1) := by decide +kernel
theorem dX6_readWord_34 : decode cX6_readWord 34 = .ok (.invokevirtual 132, 3) := by decide +kernel
theorem dX6_readWord_37 : decode cX6_readWord 37 = .ok (.ifCond .eq 13, 3) := by decide +kernel
theorem dX6_readWord_40 : decode cX6_readWord 40 = .ok (.aload_n 0, 1) := by decide +kernel
theorem dX6_readWord_41 : decode cX6_readWord 41 = .ok (.iload_n 2, 1) := by decide +kernel
theorem dX6_readWord_42 : decode cX6_readWord 42 = .ok (.putfield 19, 3) := by decide +kernel
theorem dX6_readWord_45 : decode cX6_readWord 45 = .ok (.iload_n 3, 1) := by decide +kernel
theorem dX6_readWord_46 : decode cX6_readWord 46 = .ok (.bipush 8, 2) := by decide +kernel
theorem dX6_readWord_48 : decode cX6_readWord 48 = .ok (.idiv, 1) := by decide +kernel
theorem dX6_readWord_49 : decode cX6_readWord 49 = .ok (.ireturn, 1) := by decide +kernel
theorem dX6_readWord_50 : decode cX6_readWord 50 = .ok (.iinc 3 8, 3) := by decide +kernel
theorem dX6_readWord_53 : decode cX6_readWord 53 = .ok (.goto (-42), 3) := by decide +kernel
theorem dX6_readWord_56 : decode cX6_readWord 56 = .ok (.iconst (-1), 1) := by decide +kernel
theorem dX6_readWord_57 : decode cX6_readWord 57 = .ok (.ireturn, 1) := by decide +kernel
theorem dX6_isNextWord_0 : decode cX6_isNextWord 0 = .ok (.aload_n 0, 1) := by decide +kernel
theorem dX6_isNextWord_1 : decode cX6_isNextWord 1 = .ok (.invokevirtual 35, 3) := by decide +kernel
theorem dX6_isNextWord_4 : decode cX6_isNextWord 4 = .ok (.aload_n 0, 1) := by decide +kernel
theorem dX6_isNextWord_5 : decode cX6_isNextWord 5 = .ok (.invokevirtual 125, 3) := by decide +kernel
theorem dX6_isNextWord_8 : decode cX6_isNextWord 8 = .ok (.istore_n 2, 1) := by decide +kernel
theorem dX6_isNextWord_9 : decode cX6_isNextWord 9 = .ok (.iload_n 2, 1) := by decide +kernel
theorem dX6_isNextWord_10 : decode cX6_isNextWord 10 = .ok (.aload_n 0, 1) := by decide +kernel
theorem dX6_isNextWord_11 : decode cX6_isNextWord 11 = .ok (.getfield 19, 3) := by decide +kernel
theorem dX6_isNextWord_14 : decode cX6_isNextWord 14 = .ok (.if_icmp .le 17, 3) := by decide +kernel
theorem dX6_isNextWord_17 : decode cX6_isNextWord 17 = .ok (.aload_n 0, 1) := by decide +kernel
theorem dX6_isNextWord_18 : decode cX6_isNextWord 18 = .ok (.aload_n 1, 1) := by decide +kernel
theorem dX6_isNextWord_19 : decode cX6_isNextWord 19 = .ok (.iconst 0, 1) := by decide +kernel
theorem dX6_isNextWord_20 : decode cX6_isNextWord 20 = .ok (.iload_n 2, 1) := by decide +kernel
theorem dX6_isNextWord_21 : decode cX6_isNextWord 21 = .ok (.invokevirtual 132, 3) := by decide +kernel
theorem dX6_isNextWord_24 : decode cX6_isNextWord 24 = .ok (.ifCond .eq 7, 3) := by decide +kernel
theorem dX6_isNextWord_27 : decode cX6_isNextWord 27 = .ok (.iconst 1, 1) := by decide +kernel
theorem dX6_isNextWord_28 : decode cX6_isNextWord 28 = .ok (.goto 4, 3) := by decide +kernel
theorem dX6_isNextWord_31 : decode cX6_isNextWord 31 = .ok (.iconst 0, 1) := by decide +kernel
theorem dX6_isNextWord_32 : decode cX6_isNextWord 32 = .ok (.ireturn, 1) := by decide +kernel
theorem dX6_isSlot_0 : decode cX6_isSlot 0 = .ok (.iload_n 3, 1) := by decide +kernel
theorem dX6_isSlot_1 : decode cX6_isSlot 1 = .ok (.aload_n 0, 1) := by decide +kernel
theorem dX6_isSlot_2 : decode cX6_isSlot 2 = .ok (.getfield 19, 3) := by decide +kernel
theorem dX6_isSlot_5 : decode cX6_isSlot 5 = .ok (.isub, 1) := by decide +kernel
theorem dX6_isSlot_6 : decode cX6_isSlot 6 = .ok (.bipush 8, 2) := by decide +kernel
theorem dX6_isSlot_8 : decode cX6_isSlot 8 = .ok (.if_icmp .le 5, 3) := by decide +kernel
theorem dX6_isSlot_11 : decode cX6_isSlot 11 = .ok (.iconst 0, 1) := by decide +kernel
theorem dX6_isSlot_12 : decode cX6_isSlot 12 = .ok (.ireturn, 1) := by decide +kernel
theorem dX6_isSlot_13 : decode cX6_isSlot 13 = .ok (.iconst 0, 1) := by decide +kernel
theorem dX6_isSlot_14 : decode cX6_isSlot 14 = .ok (.istore 4, 2) := by decide +kernel
theorem dX6_isSlot_16 : decode cX6_isSlot 16 = .ok (.iload 4, 2) := by decide +kernel
theorem dX6_isSlot_18 : decode cX6_isSlot 18 = .ok (.bipush 8, 2) := by decide +kernel
theorem dX6_isSlot_20 : decode cX6_isSlot 20 = .ok (.if_icmp .ge 65, 3) := by decide +kernel
theorem dX6_isSlot_23 : decode cX6_isSlot 23 = .ok (.iload_n 2, 1) := by decide +kernel
theorem dX6_isSlot_24 : decode cX6_isSlot 24 = .ok (.iload 4, 2) := by decide +kernel
theorem dX6_isSlot_26 : decode cX6_isSlot 26 = .ok (.iadd, 1) := by decide +kernel
theorem dX6_isSlot_27 : decode cX6_isSlot 27 = .ok (.aload_n 1, 1) := by decide +kernel
theorem dX6_isSlot_28 : decode cX6_isSlot 28 = .ok (.invokevirtual 128, 3) := by decide +kernel
theorem dX6_isSlot_31 : decode cX6_isSlot 31 = .ok (.if_icmp .ge 54, 3) := by decide +kernel
theorem dX6_isSlot_34 : decode cX6_isSlot 34 = .ok (.aload_n 0, 1) := by decide +kernel
theorem dX6_isSlot_35 : decode cX6_isSlot 35 = .ok (.getfield 19, 3) := by decide +kernel
theorem dX6_isSlot_38 : decode cX6_isSlot 38 = .ok (.iload 4, 2) := by decide +kernel
theorem dX6_isSlot_40 : decode cX6_isSlot 40 = .ok (.iadd, 1) := by decide +kernel
theorem dX6_isSlot_41 : decode cX6_isSlot 41 = .ok (.iload_n 3, 1) := by decide +kernel
theorem dX6_isSlot_42 : decode cX6_isSlot 42 = .ok (.if_icmp .ge 18, 3) := by decide +kernel
theorem dX6_isSlot_45 : decode cX6_isSlot 45 = .ok (.aload_n 0, 1) := by decide +kernel
theorem dX6_isSlot_46 : decode cX6_isSlot 46 = .ok (.getfield 9, 3) := by decide +kernel
theorem dX6_isSlot_49 : decode cX6_isSlot 49 = .ok (.aload_n 0, 1) := by decide +kernel
theorem dX6_isSlot_50 : decode cX6_isSlot 50 = .ok (.getfield 19, 3) := by decide +kernel
theorem dX6_isSlot_53 : decode cX6_isSlot 53 = .ok (.iload 4, 2) := by decide +kernel
theorem dX6_isSlot_55 : decode cX6_isSlot 55 = .ok (.iadd, 1) := by decide +kernel
theorem dX6_isSlot_56 : decode cX6_isSlot 56 = .ok (.baload, 1) := by decide +kernel
theorem dX6_isSlot_57 : decode cX6_isSlot 57 = .ok (.goto 5, 3) := by decide +kernel
theorem dX6_isSlot_60 : decode cX6_isSlot 60 = .ok (.bipush 32, 2) := by decide +kernel
theorem dX6_isSlot_62 : decode cX6_isSlot 62 = .ok (.istore 5, 2) := by decide +kernel
theorem dX6_isSlot_64 : decode cX6_isSlot 64 = .ok (.aload_n 1, 1) := by decide +kernel
theorem dX6_isSlot_65 : decode cX6_isSlot 65 = .ok (.iload_n 2, 1) := by decide +kernel
theorem dX6_isSlot_66 : decode cX6_isSlot 66 = .ok (.iload 4, 2) := by decide +kernel
theorem dX6_isSlot_68 : decode cX6_isSlot 68 = .ok (.iadd, 1) := by decide +kernel
theorem dX6_isSlot_69 : decode cX6_isSlot 69 = .ok (.invokevirtual 136, 3) := by decide +kernel
theorem dX6_isSlot_72 : decode cX6_isSlot 72 = .ok (.iload 5, 2) := by decide +kernel
theorem dX6_isSlot_74 : decode cX6_isSlot 74 = .ok (.if_icmp .eq 5, 3) := by decide +kernel
theorem dX6_isSlot_77 : decode cX6_isSlot 77 = .ok (.iconst 0, 1) := by decide +kernel
theorem dX6_isSlot_78 : decode cX6_isSlot 78 = .ok (.ireturn, 1) := by decide +kernel
theorem dX6_isSlot_79 : decode cX6_isSlot 79 = .ok (.iinc 4 1, 3) := by decide +kernel
theorem dX6_isSlot_82 : decode cX6_isSlot 82 = .ok (.goto (-66), 3) := by decide +kernel
theorem dX6_isSlot_85 : decode cX6_isSlot 85 = .ok (.iconst 1, 1) := by decide +kernel
theorem dX6_isSlot_86 : decode cX6_isSlot 86 = .ok (.ireturn, 1) := by decide +kernel
theorem dX6_wordEnd_0 : decode cX6_wordEnd 0 = .ok (.aload_n 0, 1) := by decide +kernel
theorem dX6_wordEnd_1 : decode cX6_wordEnd 1 = .ok (.getfield 19, 3) := by decide +kernel
theorem dX6_wordEnd_4 : decode cX6_wordEnd 4 = .ok (.istore_n 1, 1) := by decide +kernel
theorem dX6_wordEnd_5 : decode cX6_wordEnd 5 = .ok (.iload_n 1, 1) := by decide +kernel
theorem dX6_wordEnd_6 : decode cX6_wordEnd 6 = .ok (.aload_n 0, 1) := by decide +kernel
theorem dX6_wordEnd_7 : decode cX6_wordEnd 7 = .ok (.getfield 15, 3) := by decide +kernel
theorem dX6_wordEnd_10 : decode cX6_wordEnd 10 = .ok (.if_icmp .ge 31, 3) := by decide +kernel
theorem dX6_wordEnd_13 : decode cX6_wordEnd 13 = .ok (.aload_n 0, 1) := by decide +kernel
theorem dX6_wordEnd_14 : decode cX6_wordEnd 14 = .ok (.getfield 9, 3) := by decide +kernel
theorem dX6_wordEnd_17 : decode cX6_wordEnd 17 = .ok (.iload_n 1, 1) := by decide +kernel
theorem dX6_wordEnd_18 : decode cX6_wordEnd 18 = .ok (.baload, 1) := by decide +kernel
theorem dX6_wordEnd_19 : decode cX6_wordEnd 19 = .ok (.bipush 97, 2) := by decide +kernel
theorem dX6_wordEnd_21 : decode cX6_wordEnd 21 = .ok (.if_icmp .lt 20, 3) := by decide +kernel
theorem dX6_wordEnd_24 : decode cX6_wordEnd 24 = .ok (.aload_n 0, 1) := by decide +kernel
theorem dX6_wordEnd_25 : decode cX6_wordEnd 25 = .ok (.getfield 9, 3) := by decide +kernel
theorem dX6_wordEnd_28 : decode cX6_wordEnd 28 = .ok (.iload_n 1, 1) := by decide +kernel
theorem dX6_wordEnd_29 : decode cX6_wordEnd 29 = .ok (.baload, 1) := by decide +kernel
theorem dX6_wordEnd_30 : decode cX6_wordEnd 30 = .ok (.bipush 122, 2) := by decide +kernel
theorem dX6_wordEnd_32 : decode cX6_wordEnd 32 = .ok (.if_icmp .gt 9, 3) := by decide +kernel
theorem dX6_wordEnd_35 : decode cX6_wordEnd 35 = .ok (.iinc 1 1, 3) := by decide +kernel
theorem dX6_wordEnd_38 : decode cX6_wordEnd 38 = .ok (.goto (-33), 3) := by decide +kernel
theorem dX6_wordEnd_41 : decode cX6_wordEnd 41 = .ok (.iload_n 1, 1) := by decide +kernel
theorem dX6_wordEnd_42 : decode cX6_wordEnd 42 = .ok (.ireturn, 1) := by decide +kernel
theorem dX6_readNumber_0 : decode cX6_readNumber 0 = .ok (.aload_n 0, 1) := by decide +kernel
theorem dX6_readNumber_1 : decode cX6_readNumber 1 = .ok (.getfield 19, 3) := by decide +kernel
theorem dX6_readNumber_4 : decode cX6_readNumber 4 = .ok (.istore_n 1, 1) := by decide +kernel
theorem dX6_readNumber_5 : decode cX6_readNumber 5 = .ok (.iconst 0, 1) := by decide +kernel
theorem dX6_readNumber_6 : decode cX6_readNumber 6 = .ok (.istore_n 2, 1) := by decide +kernel
theorem dX6_readNumber_7 : decode cX6_readNumber 7 = .ok (.aload_n 0, 1) := by decide +kernel
theorem dX6_readNumber_8 : decode cX6_readNumber 8 = .ok (.getfield 19, 3) := by decide +kernel
theorem dX6_readNumber_11 : decode cX6_readNumber 11 = .ok (.aload_n 0, 1) := by decide +kernel
theorem dX6_readNumber_12 : decode cX6_readNumber 12 = .ok (.getfield 15, 3) := by decide +kernel
theorem dX6_readNumber_15 : decode cX6_readNumber 15 = .ok (.if_icmp .ge 55, 3) := by decide +kernel
theorem dX6_readNumber_18 : decode cX6_readNumber 18 = .ok (.aload_n 0, 1) := by decide +kernel
theorem dX6_readNumber_19 : decode cX6_readNumber 19 = .ok (.aload_n 0, 1) := by decide +kernel
theorem dX6_readNumber_20 : decode cX6_readNumber 20 = .ok (.getfield 19, 3) := by decide +kernel
theorem dX6_readNumber_23 : decode cX6_readNumber 23 = .ok (.invokevirtual 75, 3) := by decide +kernel
theorem dX6_readNumber_26 : decode cX6_readNumber 26 = .ok (.ifCond .eq 44, 3) := by decide +kernel
theorem dX6_readNumber_29 : decode cX6_readNumber 29 = .ok (.aload_n 0, 1) := by decide +kernel
theorem dX6_readNumber_30 : decode cX6_readNumber 30 = .ok (.getfield 19, 3) := by decide +kernel
theorem dX6_readNumber_33 : decode cX6_readNumber 33 = .ok (.iload_n 1, 1) := by decide +kernel
theorem dX6_readNumber_34 : decode cX6_readNumber 34 = .ok (.isub, 1) := by decide +kernel
theorem dX6_readNumber_35 : decode cX6_readNumber 35 = .ok (.iconst 4, 1) := by decide +kernel
theorem dX6_readNumber_36 : decode cX6_readNumber 36 = .ok (.if_icmp .ge 21, 3) := by decide +kernel
theorem dX6_readNumber_39 : decode cX6_readNumber 39 = .ok (.iload_n 2, 1) := by decide +kernel
theorem dX6_readNumber_40 : decode cX6_readNumber 40 = .ok (.bipush 10, 2) := by decide +kernel
theorem dX6_readNumber_42 : decode cX6_readNumber 42 = .ok (.imul, 1) := by decide +kernel
theorem dX6_readNumber_43 : decode cX6_readNumber 43 = .ok (.aload_n 0, 1) := by decide +kernel
theorem dX6_readNumber_44 : decode cX6_readNumber 44 = .ok (.getfield 9, 3) := by decide +kernel
theorem dX6_readNumber_47 : decode cX6_readNumber 47 = .ok (.aload_n 0, 1) := by decide +kernel
theorem dX6_readNumber_48 : decode cX6_readNumber 48 = .ok (.getfield 19, 3) := by decide +kernel
theorem dX6_readNumber_51 : decode cX6_readNumber 51 = .ok (.baload, 1) := by decide +kernel
theorem dX6_readNumber_52 : decode cX6_readNumber 52 = .ok (.iadd, 1) := by decide +kernel
theorem dX6_readNumber_53 : decode cX6_readNumber 53 = .ok (.bipush 48, 2) := by decide +kernel
theorem dX6_readNumber_55 : decode cX6_readNumber 55 = .ok (.isub, 1) := by decide +kernel
theorem dX6_readNumber_56 : decode cX6_readNumber 56 = .ok (.istore_n 2, 1) := by decide +kernel
theorem dX6_readNumber_57 : decode cX6_readNumber 57 = .ok (.aload_n 0, 1) := by decide +kernel
theorem dX6_readNumber_58 : decode cX6_readNumber 58 = .ok (.dup, 1) := by decide +kernel
theorem dX6_readNumber_59 : decode cX6_readNumber 59 = .ok (.getfield 19, 3) := by decide +kernel
theorem dX6_readNumber_62 : decode cX6_readNumber 62 = .ok (.iconst 1, 1) := by decide +kernel
theorem dX6_readNumber_63 : decode cX6_readNumber 63 = .ok (.iadd, 1) := by decide +kernel
theorem dX6_readNumber_64 : decode cX6_readNumber 64 = .ok (.putfield 19, 3) := by decide +kernel
theorem dX6_readNumber_67 : decode cX6_readNumber 67 = .ok (.goto (-60), 3) := by decide +kernel
theorem dX6_readNumber_70 : decode cX6_readNumber 70 = .ok (.aload_n 0, 1) := by decide +kernel
theorem dX6_readNumber_71 : decode cX6_readNumber 71 = .ok (.getfield 19, 3) := by decide +kernel
theorem dX6_readNumber_74 : decode cX6_readNumber 74 = .ok (.iload_n 1, 1) := by decide +kernel
theorem dX6_readNumber_75 : decode cX6_readNumber 75 = .ok (.isub, 1) := by decide +kernel
theorem dX6_readNumber_76 : decode cX6_readNumber 76 = .ok (.iconst 4, 1) := by decide +kernel
theorem dX6_readNumber_77 : decode cX6_readNumber 77 = .ok (.if_icmp .le 7, 3) := by decide +kernel
theorem dX6_readNumber_80 : decode cX6_readNumber 80 = .ok (.iconst (-1), 1) := by decide +kernel
theorem dX6_readNumber_81 : decode cX6_readNumber 81 = .ok (.goto 4, 3) := by decide +kernel
theorem dX6_readNumber_84 : decode cX6_readNumber 84 = .ok (.iload_n 2, 1) := by decide +kernel
theorem dX6_readNumber_85 : decode cX6_readNumber 85 = .ok (.ireturn, 1) := by decide +kernel
theorem dX6_isDigit_0 : decode cX6_isDigit 0 = .ok (.iload_n 1, 1) := by decide +kernel
theorem dX6_isDigit_1 : decode cX6_isDigit 1 = .ok (.aload_n 0, 1) := by decide +kernel
theorem dX6_isDigit_2 : decode cX6_isDigit 2 = .ok (.getfield 15, 3) := by decide +kernel
theorem dX6_isDigit_5 : decode cX6_isDigit 5 = .ok (.if_icmp .ge 29, 3) := by decide +kernel
theorem dX6_isDigit_8 : decode cX6_isDigit 8 = .ok (.aload_n 0, 1) := by decide +kernel
theorem dX6_isDigit_9 : decode cX6_isDigit 9 = .ok (.getfield 9, 3) := by decide +kernel
theorem dX6_isDigit_12 : decode cX6_isDigit 12 = .ok (.iload_n 1, 1) := by decide +kernel
theorem dX6_isDigit_13 : decode cX6_isDigit 13 = .ok (.baload, 1) := by decide +kernel
theorem dX6_isDigit_14 : decode cX6_isDigit 14 = .ok (.bipush 48, 2) := by decide +kernel
theorem dX6_isDigit_16 : decode cX6_isDigit 16 = .ok (.if_icmp .lt 18, 3) := by decide +kernel
theorem dX6_isDigit_19 : decode cX6_isDigit 19 = .ok (.aload_n 0, 1) := by decide +kernel
theorem dX6_isDigit_20 : decode cX6_isDigit 20 = .ok (.getfield 9, 3) := by decide +kernel
theorem dX6_isDigit_23 : decode cX6_isDigit 23 = .ok (.iload_n 1, 1) := by decide +kernel
theorem dX6_isDigit_24 : decode cX6_isDigit 24 = .ok (.baload, 1) := by decide +kernel
theorem dX6_isDigit_25 : decode cX6_isDigit 25 = .ok (.bipush 57, 2) := by decide +kernel
theorem dX6_isDigit_27 : decode cX6_isDigit 27 = .ok (.if_icmp .gt 7, 3) := by decide +kernel
theorem dX6_isDigit_30 : decode cX6_isDigit 30 = .ok (.iconst 1, 1) := by decide +kernel
theorem dX6_isDigit_31 : decode cX6_isDigit 31 = .ok (.goto 4, 3) := by decide +kernel
theorem dX6_isDigit_34 : decode cX6_isDigit 34 = .ok (.iconst 0, 1) := by decide +kernel
theorem dX6_isDigit_35 : decode cX6_isDigit 35 = .ok (.ireturn, 1) := by decide +kernel
theorem dX6_isByte_0 : decode cX6_isByte 0 = .ok (.aload_n 0, 1) := by decide +kernel
theorem dX6_isByte_1 : decode cX6_isByte 1 = .ok (.getfield 19, 3) := by decide +kernel
theorem dX6_isByte_4 : decode cX6_isByte 4 = .ok (.aload_n 0, 1) := by decide +kernel
theorem dX6_isByte_5 : decode cX6_isByte 5 = .ok (.getfield 15, 3) := by decide +kernel
theorem dX6_isByte_8 : decode cX6_isByte 8 = .ok (.if_icmp .ge 20, 3) := by decide +kernel
theorem dX6_isByte_11 : decode cX6_isByte 11 = .ok (.aload_n 0, 1) := by decide +kernel
theorem dX6_isByte_12 : decode cX6_isByte 12 = .ok (.getfield 9, 3) := by decide +kernel
theorem dX6_isByte_15 : decode cX6_isByte 15 = .ok (.aload_n 0, 1) := by decide +kernel
theorem dX6_isByte_16 : decode cX6_isByte 16 = .ok (.getfield 19, 3) := by decide +kernel
theorem dX6_isByte_19 : decode cX6_isByte 19 = .ok (.baload, 1) := by decide +kernel
theorem dX6_isByte_20 : decode cX6_isByte 20 = .ok (.iload_n 1, 1) := by decide +kernel
theorem dX6_isByte_21 : decode cX6_isByte 21 = .ok (.if_icmp .ne 7, 3) := by decide +kernel
theorem dX6_isByte_24 : decode cX6_isByte 24 = .ok (.iconst 1, 1) := by decide +kernel
theorem dX6_isByte_25 : decode cX6_isByte 25 = .ok (.goto 4, 3) := by decide +kernel
theorem dX6_isByte_28 : decode cX6_isByte 28 = .ok (.iconst 0, 1) := by decide +kernel
theorem dX6_isByte_29 : decode cX6_isByte 29 = .ok (.ireturn, 1) := by decide +kernel
theorem dX6_skipBlanks_0 : decode cX6_skipBlanks 0 = .ok (.aload_n 0, 1) := by decide +kernel
theorem dX6_skipBlanks_1 : decode cX6_skipBlanks 1 = .ok (.getfield 19, 3) := by decide +kernel
theorem dX6_skipBlanks_4 : decode cX6_skipBlanks 4 = .ok (.aload_n 0, 1) := by decide +kernel
theorem dX6_skipBlanks_5 : decode cX6_skipBlanks 5 = .ok (.getfield 15, 3) := by decide +kernel
theorem dX6_skipBlanks_8 : decode cX6_skipBlanks 8 = .ok (.if_icmp .ge 30, 3) := by decide +kernel
theorem dX6_skipBlanks_11 : decode cX6_skipBlanks 11 = .ok (.aload_n 0, 1) := by decide +kernel
theorem dX6_skipBlanks_12 : decode cX6_skipBlanks 12 = .ok (.getfield 9, 3) := by decide +kernel
theorem dX6_skipBlanks_15 : decode cX6_skipBlanks 15 = .ok (.aload_n 0, 1) := by decide +kernel
theorem dX6_skipBlanks_16 : decode cX6_skipBlanks 16 = .ok (.getfield 19, 3) := by decide +kernel
theorem dX6_skipBlanks_19 : decode cX6_skipBlanks 19 = .ok (.baload, 1) := by decide +kernel
theorem dX6_skipBlanks_20 : decode cX6_skipBlanks 20 = .ok (.bipush 32, 2) := by decide +kernel
theorem dX6_skipBlanks_22 : decode cX6_skipBlanks 22 = .ok (.if_icmp .ne 16, 3) := by decide +kernel
theorem dX6_skipBlanks_25 : decode cX6_skipBlanks 25 = .ok (.aload_n 0, 1) := by decide +kernel
theorem dX6_skipBlanks_26 : decode cX6_skipBlanks 26 = .ok (.dup, 1) := by decide +kernel
theorem dX6_skipBlanks_27 : decode cX6_skipBlanks 27 = .ok (.getfield 19, 3) := by decide +kernel
theorem dX6_skipBlanks_30 : decode cX6_skipBlanks 30 = .ok (.iconst 1, 1) := by decide +kernel
theorem dX6_skipBlanks_31 : decode cX6_skipBlanks 31 = .ok (.iadd, 1) := by decide +kernel
theorem dX6_skipBlanks_32 : decode cX6_skipBlanks 32 = .ok (.putfield 19, 3) := by decide +kernel
theorem dX6_skipBlanks_35 : decode cX6_skipBlanks 35 = .ok (.goto (-35), 3) := by decide +kernel
theorem dX6_skipBlanks_38 : decode cX6_skipBlanks 38 = .ok (.return_, 1) := by decide +kernel
theorem dX6_refuse_0 : decode cX6_refuse 0 = .ok (.aload_n 0, 1) := by decide +kernel
theorem dX6_refuse_1 : decode cX6_refuse 1 = .ok (.iconst 1, 1) := by decide +kernel
theorem dX6_refuse_2 : decode cX6_refuse 2 = .ok (.bipush 8, 2) := by decide +kernel
theorem dX6_refuse_4 : decode cX6_refuse 4 = .ok (.iload_n 1, 1) := by decide +kernel
theorem dX6_refuse_5 : decode cX6_refuse 5 = .ok (.imul, 1) := by decide +kernel
theorem dX6_refuse_6 : decode cX6_refuse 6 = .ok (.iadd, 1) := by decide +kernel
theorem dX6_refuse_7 : decode cX6_refuse 7 = .ok (.iload_n 2, 1) := by decide +kernel
theorem dX6_refuse_8 : decode cX6_refuse 8 = .ok (.iadd, 1) := by decide +kernel
theorem dX6_refuse_9 : decode cX6_refuse 9 = .ok (.putfield 22, 3) := by decide +kernel
theorem dX6_refuse_12 : decode cX6_refuse 12 = .ok (.iconst 0, 1) := by decide +kernel
theorem dX6_refuse_13 : decode cX6_refuse 13 = .ok (.ireturn, 1) := by decide +kernel
theorem dX7_init_0 : decode cX7_init 0 = .ok (.aload_n 0, 1) := by decide +kernel
theorem dX7_init_1 : decode cX7_init 1 = .ok (.invokespecial 3, 3) := by decide +kernel
theorem dX7_init_4 : decode cX7_init 4 = .ok (.aload_n 0, 1) := by decide +kernel
theorem dX7_init_5 : decode cX7_init 5 = .ok (.iconst (-1), 1) := by decide +kernel
theorem dX7_init_6 : decode cX7_init 6 = .ok (.putfield 9, 3) := by decide +kernel
theorem dX7_init_9 : decode cX7_init 9 = .ok (.aload_n 0, 1) := by decide +kernel
theorem dX7_init_10 : decode cX7_init 10 = .ok (.bipush 100, 2) := by decide +kernel
theorem dX7_init_12 : decode cX7_init 12 = .ok (.newarray .int, 2) := by decide +kernel
theorem dX7_init_14 : decode cX7_init 14 = .ok (.putfield 15, 3) := by decide +kernel
theorem dX7_init_17 : decode cX7_init 17 = .ok (.aload_n 0, 1) := by decide +kernel
theorem dX7_init_18 : decode cX7_init 18 = .ok (.sipush 1600, 3) := by decide +kernel
theorem dX7_init_21 : decode cX7_init 21 = .ok (.newarray .int, 2) := by decide +kernel
theorem dX7_init_23 : decode cX7_init 23 = .ok (.putfield 19, 3) := by decide +kernel
theorem dX7_init_26 : decode cX7_init 26 = .ok (.aload_n 0, 1) := by decide +kernel
theorem dX7_init_27 : decode cX7_init 27 = .ok (.iconst 4, 1) := by decide +kernel
theorem dX7_init_28 : decode cX7_init 28 = .ok (.newarray .int, 2) := by decide +kernel
theorem dX7_init_30 : decode cX7_init 30 = .ok (.putfield 22, 3) := by decide +kernel
theorem dX7_init_33 : decode cX7_init 33 = .ok (.aload_n 0, 1) := by decide +kernel
theorem dX7_init_34 : decode cX7_init 34 = .ok (.iconst 4, 1) := by decide +kernel
theorem dX7_init_35 : decode cX7_init 35 = .ok (.newarray .int, 2) := by decide +kernel
theorem dX7_init_37 : decode cX7_init 37 = .ok (.putfield 25, 3) := by decide +kernel
theorem dX7_init_40 : decode cX7_init 40 = .ok (.return_, 1) := by decide +kernel
theorem dX7_clear_0 : decode cX7_clear 0 = .ok (.aload_n 0, 1) := by decide +kernel
theorem dX7_clear_1 : decode cX7_clear 1 = .ok (.iload_n 1, 1) := by decide +kernel
theorem dX7_clear_2 : decode cX7_clear 2 = .ok (.putfield 28, 3) := by decide +kernel
theorem dX7_clear_5 : decode cX7_clear 5 = .ok (.aload_n 0, 1) := by decide +kernel
theorem dX7_clear_6 : decode cX7_clear 6 = .ok (.iconst 0, 1) := by decide +kernel
theorem dX7_clear_7 : decode cX7_clear 7 = .ok (.putfield 9, 3) := by decide +kernel
theorem dX7_clear_10 : decode cX7_clear 10 = .ok (.iconst 0, 1) := by decide +kernel
theorem dX7_clear_11 : decode cX7_clear 11 = .ok (.istore_n 2, 1) := by decide +kernel
theorem dX7_clear_12 : decode cX7_clear 12 = .ok (.iload_n 2, 1) := by decide +kernel
theorem dX7_clear_13 : decode cX7_clear 13 = .ok (.aload_n 0, 1) := by decide +kernel
theorem dX7_clear_14 : decode cX7_clear 14 = .ok (.getfield 19, 3) := by decide +kernel
theorem dX7_clear_17 : decode cX7_clear 17 = .ok (.arraylength, 1) := by decide +kernel
theorem dX7_clear_18 : decode cX7_clear 18 = .ok (.if_icmp .ge 16, 3) := by decide +kernel
theorem dX7_clear_21 : decode cX7_clear 21 = .ok (.aload_n 0, 1) := by decide +kernel
theorem dX7_clear_22 : decode cX7_clear 22 = .ok (.getfield 19, 3) := by decide +kernel
theorem dX7_clear_25 : decode cX7_clear 25 = .ok (.iload_n 2, 1) := by decide +kernel
theorem dX7_clear_26 : decode cX7_clear 26 = .ok (.iconst 0, 1) := by decide +kernel
theorem dX7_clear_27 : decode cX7_clear 27 = .ok (.iastore, 1) := by decide +kernel
theorem dX7_clear_28 : decode cX7_clear 28 = .ok (.iinc 2 1, 3) := by decide +kernel
theorem dX7_clear_31 : decode cX7_clear 31 = .ok (.goto (-19), 3) := by decide +kernel
theorem dX7_clear_34 : decode cX7_clear 34 = .ok (.return_, 1) := by decide +kernel
theorem dX7_owe_0 : decode cX7_owe 0 = .ok (.aload_n 0, 1) := by decide +kernel
theorem dX7_owe_1 : decode cX7_owe 1 = .ok (.getfield 19, 3) := by decide +kernel
theorem dX7_owe_4 : decode cX7_owe 4 = .ok (.iload_n 1, 1) := by decide +kernel
theorem dX7_owe_5 : decode cX7_owe 5 = .ok (.bipush 40, 2) := by decide +kernel
theorem dX7_owe_7 : decode cX7_owe 7 = .ok (.imul, 1) := by decide +kernel
theorem dX7_owe_8 : decode cX7_owe 8 = .ok (.iload_n 2, 1) := by decide +kernel
theorem dX7_owe_9 : decode cX7_owe 9 = .ok (.iadd, 1) := by decide +kernel
theorem dX7_owe_10 : decode cX7_owe 10 = .ok (.dup2, 1) := by decide +kernel
theorem dX7_owe_11 : decode cX7_owe 11 = .ok (.iaload, 1) := by decide +kernel
theorem dX7_owe_12 : decode cX7_owe 12 = .ok (.iload_n 3, 1) := by decide +kernel
theorem dX7_owe_13 : decode cX7_owe 13 = .ok (.iadd, 1) := by decide +kernel
theorem dX7_owe_14 : decode cX7_owe 14 = .ok (.iastore, 1) := by decide +kernel
theorem dX7_owe_15 : decode cX7_owe 15 = .ok (.return_, 1) := by decide +kernel
theorem dX7_findBest_0 : decode cX7_findBest 0 = .ok (.aload_n 0, 1) := by decide +kernel
theorem dX7_findBest_1 : decode cX7_findBest 1 = .ok (.iconst 0, 1) := by decide +kernel
theorem dX7_findBest_2 : decode cX7_findBest 2 = .ok (.putfield 31, 3) := by decide +kernel
theorem dX7_findBest_5 : decode cX7_findBest 5 = .ok (.aload_n 0, 1) := by decide +kernel
theorem dX7_findBest_6 : decode cX7_findBest 6 = .ok (.iconst 0, 1) := by decide +kernel
theorem dX7_findBest_7 : decode cX7_findBest 7 = .ok (.putfield 34, 3) := by decide +kernel
theorem dX7_findBest_10 : decode cX7_findBest 10 = .ok (.iconst 0, 1) := by decide +kernel
theorem dX7_findBest_11 : decode cX7_findBest 11 = .ok (.istore_n 1, 1) := by decide +kernel
theorem dX7_findBest_12 : decode cX7_findBest 12 = .ok (.iload_n 1, 1) := by decide +kernel
theorem dX7_findBest_13 : decode cX7_findBest 13 = .ok (.aload_n 0, 1) := by decide +kernel
theorem dX7_findBest_14 : decode cX7_findBest 14 = .ok (.getfield 28, 3) := by decide +kernel
theorem dX7_findBest_17 : decode cX7_findBest 17 = .ok (.if_icmp .ge 23, 3) := by decide +kernel
theorem dX7_findBest_20 : decode cX7_findBest 20 = .ok (.aload_n 0, 1) := by decide +kernel
theorem dX7_findBest_21 : decode cX7_findBest 21 = .ok (.getfield 22, 3) := by decide +kernel
theorem dX7_findBest_24 : decode cX7_findBest 24 = .ok (.iconst 0, 1) := by decide +kernel
theorem dX7_findBest_25 : decode cX7_findBest 25 = .ok (.iload_n 1, 1) := by decide +kernel
theorem dX7_findBest_26 : decode cX7_findBest 26 = .ok (.iastore, 1) := by decide +kernel
theorem dX7_findBest_27 : decode cX7_findBest 27 = .ok (.aload_n 0, 1) := by decide +kernel
theorem dX7_findBest_28 : decode cX7_findBest 28 = .ok (.iconst 1, 1) := by decide +kernel
theorem dX7_findBest_29 : decode cX7_findBest 29 = .ok (.ldc 37, 2) := by decide +kernel
theorem dX7_findBest_31 : decode cX7_findBest 31 = .ok (.invokevirtual 38, 3) := by decide +kernel
theorem dX7_findBest_34 : decode cX7_findBest 34 = .ok (.iinc 1 1, 3) := by decide +kernel
theorem dX7_findBest_37 : decode cX7_findBest 37 = .ok (.goto (-25), 3) := by decide +kernel
theorem dX7_findBest_40 : decode cX7_findBest 40 = .ok (.aload_n 0, 1) := by decide +kernel
theorem dX7_findBest_41 : decode cX7_findBest 41 = .ok (.getfield 31, 3) := by decide +kernel
theorem dX7_findBest_44 : decode cX7_findBest 44 = .ok (.ifCond .le 7, 3) := by decide +kernel
theorem dX7_findBest_47 : decode cX7_findBest 47 = .ok (.iconst 1, 1) := by decide +kernel
theorem dX7_findBest_48 : decode cX7_findBest 48 = .ok (.goto 4, 3) := by decide +kernel
theorem dX7_findBest_51 : decode cX7_findBest 51 = .ok (.iconst 0, 1) := by decide +kernel
theorem dX7_findBest_52 : decode cX7_findBest 52 = .ok (.ireturn, 1) := by decide +kernel
theorem dX7_goOn_0 : decode cX7_goOn 0 = .ok (.aload_n 0, 1) := by decide +kernel
theorem dX7_goOn_1 : decode cX7_goOn 1 = .ok (.getfield 22, 3) := by decide +kernel
theorem dX7_goOn_4 : decode cX7_goOn 4 = .ok (.iload_n 1, 1) := by decide +kernel
theorem dX7_goOn_5 : decode cX7_goOn 5 = .ok (.iconst 1, 1) := by decide +kernel
theorem dX7_goOn_6 : decode cX7_goOn 6 = .ok (.isub, 1) := by decide +kernel
theorem dX7_goOn_7 : decode cX7_goOn 7 = .ok (.iaload, 1) := by decide +kernel
theorem dX7_goOn_8 : decode cX7_goOn 8 = .ok (.bipush 40, 2) := by decide +kernel
theorem dX7_goOn_10 : decode cX7_goOn 10 = .ok (.imul, 1) := by decide +kernel
theorem dX7_goOn_11 : decode cX7_goOn 11 = .ok (.istore_n 3, 1) := by decide +kernel
theorem dX7_goOn_12 : decode cX7_goOn 12 = .ok (.iload_n 1, 1) := by decide +kernel
theorem dX7_goOn_13 : decode cX7_goOn 13 = .ok (.iconst 1, 1) := by decide +kernel
theorem dX7_goOn_14 : decode cX7_goOn 14 = .ok (.if_icmp .le 25, 3) := by decide +kernel
theorem dX7_goOn_17 : decode cX7_goOn 17 = .ok (.aload_n 0, 1) := by decide +kernel
theorem dX7_goOn_18 : decode cX7_goOn 18 = .ok (.iload_n 1, 1) := by decide +kernel
theorem dX7_goOn_19 : decode cX7_goOn 19 = .ok (.iload_n 2, 1) := by decide +kernel
theorem dX7_goOn_20 : decode cX7_goOn 20 = .ok (.aload_n 0, 1) := by decide +kernel
theorem dX7_goOn_21 : decode cX7_goOn 21 = .ok (.getfield 19, 3) := by decide +kernel
theorem dX7_goOn_24 : decode cX7_goOn 24 = .ok (.iload_n 3, 1) := by decide +kernel
theorem dX7_goOn_25 : decode cX7_goOn 25 = .ok (.aload_n 0, 1) := by decide +kernel
theorem dX7_goOn_26 : decode cX7_goOn 26 = .ok (.getfield 22, 3) := by decide +kernel
theorem dX7_goOn_29 : decode cX7_goOn 29 = .ok (.iconst 0, 1) := by decide +kernel
theorem dX7_goOn_30 : decode cX7_goOn 30 = .ok (.iaload, 1) := by decide +kernel
theorem dX7_goOn_31 : decode cX7_goOn 31 = .ok (.iadd, 1) := by decide +kernel
theorem dX7_goOn_32 : decode cX7_goOn 32 = .ok (.iaload, 1) := by decide +kernel
theorem dX7_goOn_33 : decode cX7_goOn 33 = .ok (.invokestatic 42, 3) := by decide +kernel
theorem dX7_goOn_36 : decode cX7_goOn 36 = .ok (.invokevirtual 48, 3) := by decide +kernel
theorem dX7_goOn_39 : decode cX7_goOn 39 = .ok (.aload_n 0, 1) := by decide +kernel
theorem dX7_goOn_40 : decode cX7_goOn 40 = .ok (.getfield 22, 3) := by decide +kernel
theorem dX7_goOn_43 : decode cX7_goOn 43 = .ok (.iconst 0, 1) := by decide +kernel
theorem dX7_goOn_44 : decode cX7_goOn 44 = .ok (.iaload, 1) := by decide +kernel
theorem dX7_goOn_45 : decode cX7_goOn 45 = .ok (.iconst 1, 1) := by decide +kernel
theorem dX7_goOn_46 : decode cX7_goOn 46 = .ok (.iadd, 1) := by decide +kernel
theorem dX7_goOn_47 : decode cX7_goOn 47 = .ok (.istore 4, 2) := by decide +kernel
theorem dX7_goOn_49 : decode cX7_goOn 49 = .ok (.iload 4, 2) := by decide +kernel
theorem dX7_goOn_51 : decode cX7_goOn 51 = .ok (.aload_n 0, 1) := by decide +kernel
theorem dX7_goOn_52 : decode cX7_goOn 52 = .ok (.getfield 28, 3) := by decide +kernel
theorem dX7_goOn_55 : decode cX7_goOn 55 = .ok (.if_icmp .ge 70, 3) := by decide +kernel
theorem dX7_goOn_58 : decode cX7_goOn 58 = .ok (.iload_n 1, 1) := by decide +kernel
theorem dX7_goOn_59 : decode cX7_goOn 59 = .ok (.iconst 4, 1) := by decide +kernel
theorem dX7_goOn_60 : decode cX7_goOn 60 = .ok (.if_icmp .ge 65, 3) := by decide +kernel
theorem dX7_goOn_63 : decode cX7_goOn 63 = .ok (.aload_n 0, 1) := by decide +kernel
theorem dX7_goOn_64 : decode cX7_goOn 64 = .ok (.getfield 19, 3) := by decide +kernel
theorem dX7_goOn_67 : decode cX7_goOn 67 = .ok (.iload_n 3, 1) := by decide +kernel
theorem dX7_goOn_68 : decode cX7_goOn 68 = .ok (.iload 4, 2) := by decide +kernel
theorem dX7_goOn_70 : decode cX7_goOn 70 = .ok (.iadd, 1) := by decide +kernel
theorem dX7_goOn_71 : decode cX7_goOn 71 = .ok (.iaload, 1) := by decide +kernel
theorem dX7_goOn_72 : decode cX7_goOn 72 = .ok (.istore 5, 2) := by decide +kernel
theorem dX7_goOn_74 : decode cX7_goOn 74 = .ok (.iload 5, 2) := by decide +kernel
theorem dX7_goOn_76 : decode cX7_goOn 76 = .ok (.ifCond .le 43, 3) := by decide +kernel
theorem dX7_goOn_79 : decode cX7_goOn 79 = .ok (.iload 5, 2) := by decide +kernel
theorem dX7_goOn_81 : decode cX7_goOn 81 = .ok (.aload_n 0, 1) := by decide +kernel
theorem dX7_goOn_82 : decode cX7_goOn 82 = .ok (.getfield 34, 3) := by decide +kernel
theorem dX7_goOn_85 : decode cX7_goOn 85 = .ok (.if_icmp .lt 34, 3) := by decide +kernel
theorem dX7_goOn_88 : decode cX7_goOn 88 = .ok (.aload_n 0, 1) := by decide +kernel
theorem dX7_goOn_89 : decode cX7_goOn 89 = .ok (.iload 4, 2) := by decide +kernel
theorem dX7_goOn_91 : decode cX7_goOn 91 = .ok (.iload_n 1, 1) := by decide +kernel
theorem dX7_goOn_92 : decode cX7_goOn 92 = .ok (.invokevirtual 51, 3) := by decide +kernel
theorem dX7_goOn_95 : decode cX7_goOn 95 = .ok (.ifCond .ne 24, 3) := by decide +kernel
theorem dX7_goOn_98 : decode cX7_goOn 98 = .ok (.aload_n 0, 1) := by decide +kernel
theorem dX7_goOn_99 : decode cX7_goOn 99 = .ok (.getfield 22, 3) := by decide +kernel
theorem dX7_goOn_102 : decode cX7_goOn 102 = .ok (.iload_n 1, 1) := by decide +kernel
theorem dX7_goOn_103 : decode cX7_goOn 103 = .ok (.iload 4, 2) := by decide +kernel
theorem dX7_goOn_105 : decode cX7_goOn 105 = .ok (.iastore, 1) := by decide +kernel
theorem dX7_goOn_106 : decode cX7_goOn 106 = .ok (.aload_n 0, 1) := by decide +kernel
theorem dX7_goOn_107 : decode cX7_goOn 107 = .ok (.iload_n 1, 1) := by decide +kernel
theorem dX7_goOn_108 : decode cX7_goOn 108 = .ok (.iconst 1, 1) := by decide +kernel
theorem dX7_goOn_109 : decode cX7_goOn 109 = .ok (.iadd, 1) := by decide +kernel
theorem dX7_goOn_110 : decode cX7_goOn 110 = .ok (.iload_n 2, 1) := by decide +kernel
theorem dX7_goOn_111 : decode cX7_goOn 111 = .ok (.iload 5, 2) := by decide +kernel
theorem dX7_goOn_113 : decode cX7_goOn 113 = .ok (.invokestatic 42, 3) := by decide +kernel
theorem dX7_goOn_116 : decode cX7_goOn 116 = .ok (.invokevirtual 38, 3) := by decide +kernel
theorem dX7_goOn_119 : decode cX7_goOn 119 = .ok (.iinc 4 1, 3) := by decide +kernel
theorem dX7_goOn_122 : decode cX7_goOn 122 = .ok (.goto (-73), 3) := by decide +kernel
theorem dX7_goOn_125 : decode cX7_goOn 125 = .ok (.return_, 1) := by decide +kernel
theorem dX7_isInRing_0 : decode cX7_isInRing 0 = .ok (.iconst 0, 1) := by decide +kernel
theorem dX7_isInRing_1 : decode cX7_isInRing 1 = .ok (.istore_n 3, 1) := by decide +kernel
theorem dX7_isInRing_2 : decode cX7_isInRing 2 = .ok (.iload_n 3, 1) := by decide +kernel
theorem dX7_isInRing_3 : decode cX7_isInRing 3 = .ok (.iload_n 2, 1) := by decide +kernel
theorem dX7_isInRing_4 : decode cX7_isInRing 4 = .ok (.if_icmp .ge 21, 3) := by decide +kernel
theorem dX7_isInRing_7 : decode cX7_isInRing 7 = .ok (.aload_n 0, 1) := by decide +kernel
theorem dX7_isInRing_8 : decode cX7_isInRing 8 = .ok (.getfield 22, 3) := by decide +kernel
theorem dX7_isInRing_11 : decode cX7_isInRing 11 = .ok (.iload_n 3, 1) := by decide +kernel
theorem dX7_isInRing_12 : decode cX7_isInRing 12 = .ok (.iaload, 1) := by decide +kernel
theorem dX7_isInRing_13 : decode cX7_isInRing 13 = .ok (.iload_n 1, 1) := by decide +kernel
theorem dX7_isInRing_14 : decode cX7_isInRing 14 = .ok (.if_icmp .ne 5, 3) := by decide +kernel
theorem dX7_isInRing_17 : decode cX7_isInRing 17 = .ok (.iconst 1, 1) := by decide +kernel
theorem dX7_isInRing_18 : decode cX7_isInRing 18 = .ok (.ireturn, 1) := by decide +kernel
theorem dX7_isInRing_19 : decode cX7_isInRing 19 = .ok (.iinc 3 1, 3) := by decide +kernel
theorem dX7_isInRing_22 : decode cX7_isInRing 22 = .ok (.goto (-20), 3) := by decide +kernel
theorem dX7_isInRing_25 : decode cX7_isInRing 25 = .ok (.iconst 0, 1) := by decide +kernel
theorem dX7_isInRing_26 : decode cX7_isInRing 26 = .ok (.ireturn, 1) := by decide +kernel
theorem dX7_keepIfBetter_0 : decode cX7_keepIfBetter 0 = .ok (.iload_n 2, 1) := by decide +kernel
theorem dX7_keepIfBetter_1 : decode cX7_keepIfBetter 1 = .ok (.aload_n 0, 1) := by decide +kernel
theorem dX7_keepIfBetter_2 : decode cX7_keepIfBetter 2 = .ok (.getfield 34, 3) := by decide +kernel
theorem dX7_keepIfBetter_5 : decode cX7_keepIfBetter 5 = .ok (.if_icmp .gt 19, 3) := by decide +kernel
theorem dX7_keepIfBetter_8 : decode cX7_keepIfBetter 8 = .ok (.iload_n 2, 1) := by decide +kernel
theorem dX7_keepIfBetter_9 : decode cX7_keepIfBetter 9 = .ok (.aload_n 0, 1) := by decide +kernel
theorem dX7_keepIfBetter_10 : decode cX7_keepIfBetter 10 = .ok (.getfield 34, 3) := by decide +kernel
theorem dX7_keepIfBetter_13 : decode cX7_keepIfBetter 13 = .ok (.if_icmp .ne 35, 3) := by decide +kernel
theorem dX7_keepIfBetter_16 : decode cX7_keepIfBetter 16 = .ok (.iload_n 1, 1) := by decide +kernel
theorem dX7_keepIfBetter_17 : decode cX7_keepIfBetter 17 = .ok (.aload_n 0, 1) := by decide +kernel
theorem dX7_keepIfBetter_18 : decode cX7_keepIfBetter 18 = .ok (.getfield 31, 3) := by decide +kernel
theorem dX7_keepIfBetter_21 : decode cX7_keepIfBetter 21 = .ok (.if_icmp .ge 27, 3) := by decide +kernel
theorem dX7_keepIfBetter_24 : decode cX7_keepIfBetter 24 = .ok (.aload_n 0, 1) := by decide +kernel
theorem dX7_keepIfBetter_25 : decode cX7_keepIfBetter 25 = .ok (.iload_n 2, 1) := by decide +kernel
theorem dX7_keepIfBetter_26 : decode cX7_keepIfBetter 26 = .ok (.putfield 34, 3) := by decide +kernel
theorem dX7_keepIfBetter_29 : decode cX7_keepIfBetter 29 = .ok (.aload_n 0, 1) := by decide +kernel
theorem dX7_keepIfBetter_30 : decode cX7_keepIfBetter 30 = .ok (.iload_n 1, 1) := by decide +kernel
theorem dX7_keepIfBetter_31 : decode cX7_keepIfBetter 31 = .ok (.putfield 31, 3) := by decide +kernel
theorem dX7_keepIfBetter_34 : decode cX7_keepIfBetter 34 = .ok (.aload_n 0, 1) := by decide +kernel
theorem dX7_keepIfBetter_35 : decode cX7_keepIfBetter 35 = .ok (.getfield 22, 3) := by decide +kernel
theorem dX7_keepIfBetter_38 : decode cX7_keepIfBetter 38 = .ok (.iconst 0, 1) := by decide +kernel
theorem dX7_keepIfBetter_39 : decode cX7_keepIfBetter 39 = .ok (.aload_n 0, 1) := by decide +kernel
theorem dX7_keepIfBetter_40 : decode cX7_keepIfBetter 40 = .ok (.getfield 25, 3) := by decide +kernel
theorem dX7_keepIfBetter_43 : decode cX7_keepIfBetter 43 = .ok (.iconst 0, 1) := by decide +kernel
theorem dX7_keepIfBetter_44 : decode cX7_keepIfBetter 44 = .ok (.iload_n 1, 1) := by decide +kernel
theorem dX7_keepIfBetter_45 : decode cX7_keepIfBetter 45 = .ok (.invokestatic 55, 3) := by decide +kernel
theorem dX7_keepIfBetter_48 : decode cX7_keepIfBetter 48 = .ok (.return_, 1) := by decide +kernel
theorem dX7_isDebt_0 : decode cX7_isDebt 0 = .ok (.aload_n 2, 1) := by decide +kernel
theorem dX7_isDebt_1 : decode cX7_isDebt 1 = .ok (.getfield 61, 3) := by decide +kernel
theorem dX7_isDebt_4 : decode cX7_isDebt 4 = .ok (.getfield 67, 3) := by decide +kernel
theorem dX7_isDebt_7 : decode cX7_isDebt 7 = .ok (.aload_n 0, 1) := by decide +kernel
theorem dX7_isDebt_8 : decode cX7_isDebt 8 = .ok (.getfield 25, 3) := by decide +kernel
theorem dX7_isDebt_11 : decode cX7_isDebt 11 = .ok (.iload_n 1, 1) := by decide +kernel
theorem dX7_isDebt_12 : decode cX7_isDebt 12 = .ok (.iaload, 1) := by decide +kernel
theorem dX7_isDebt_13 : decode cX7_isDebt 13 = .ok (.if_icmp .ne 27, 3) := by decide +kernel
theorem dX7_isDebt_16 : decode cX7_isDebt 16 = .ok (.aload_n 2, 1) := by decide +kernel
theorem dX7_isDebt_17 : decode cX7_isDebt 17 = .ok (.getfield 72, 3) := by decide +kernel
theorem dX7_isDebt_20 : decode cX7_isDebt 20 = .ok (.getfield 67, 3) := by decide +kernel
theorem dX7_isDebt_23 : decode cX7_isDebt 23 = .ok (.aload_n 0, 1) := by decide +kernel
theorem dX7_isDebt_24 : decode cX7_isDebt 24 = .ok (.getfield 25, 3) := by decide +kernel
theorem dX7_isDebt_27 : decode cX7_isDebt 27 = .ok (.aload_n 0, 1) := by decide +kernel
theorem dX7_isDebt_28 : decode cX7_isDebt 28 = .ok (.iload_n 1, 1) := by decide +kernel
theorem dX7_isDebt_29 : decode cX7_isDebt 29 = .ok (.invokevirtual 75, 3) := by decide +kernel
theorem dX7_isDebt_32 : decode cX7_isDebt 32 = .ok (.iaload, 1) := by decide +kernel
theorem dX7_isDebt_33 : decode cX7_isDebt 33 = .ok (.if_icmp .ne 7, 3) := by decide +kernel
theorem dX7_isDebt_36 : decode cX7_isDebt 36 = .ok (.iconst 1, 1) := by decide +kernel
theorem dX7_isDebt_37 : decode cX7_isDebt 37 = .ok (.goto 4, 3) := by decide +kernel
theorem dX7_isDebt_40 : decode cX7_isDebt 40 = .ok (.iconst 0, 1) := by decide +kernel
theorem dX7_isDebt_41 : decode cX7_isDebt 41 = .ok (.ireturn, 1) := by decide +kernel
theorem dX7_placeAfter_0 : decode cX7_placeAfter 0 = .ok (.iload_n 1, 1) := by decide +kernel
theorem dX7_placeAfter_1 : decode cX7_placeAfter 1 = .ok (.iconst 1, 1) := by decide +kernel
theorem dX7_placeAfter_2 : decode cX7_placeAfter 2 = .ok (.iadd, 1) := by decide +kernel
theorem dX7_placeAfter_3 : decode cX7_placeAfter 3 = .ok (.aload_n 0, 1) := by decide +kernel
theorem dX7_placeAfter_4 : decode cX7_placeAfter 4 = .ok (.getfield 31, 3) := by decide +kernel
theorem dX7_placeAfter_7 : decode cX7_placeAfter 7 = .ok (.if_icmp .ge 9, 3) := by decide +kernel
theorem dX7_placeAfter_10 : decode cX7_placeAfter 10 = .ok (.iload_n 1, 1) := by decide +kernel
theorem dX7_placeAfter_11 : decode cX7_placeAfter 11 = .ok (.iconst 1, 1) := by decide +kernel
theorem dX7_placeAfter_12 : decode cX7_placeAfter 12 = .ok (.iadd, 1) := by decide +kernel
theorem dX7_placeAfter_13 : decode cX7_placeAfter 13 = .ok (.goto 4, 3) := by decide +kernel
theorem dX7_placeAfter_16 : decode cX7_placeAfter 16 = .ok (.iconst 0, 1) := by decide +kernel
theorem dX7_placeAfter_17 : decode cX7_placeAfter 17 = .ok (.ireturn, 1) := by decide +kernel
theorem dX7_takeOff_0 : decode cX7_takeOff 0 = .ok (.iconst 0, 1) := by decide +kernel
theorem dX7_takeOff_1 : decode cX7_takeOff 1 = .ok (.istore_n 1, 1) := by decide +kernel
theorem dX7_takeOff_2 : decode cX7_takeOff 2 = .ok (.iload_n 1, 1) := by decide +kernel
theorem dX7_takeOff_3 : decode cX7_takeOff 3 = .ok (.aload_n 0, 1) := by decide +kernel
theorem dX7_takeOff_4 : decode cX7_takeOff 4 = .ok (.getfield 31, 3) := by decide +kernel
theorem dX7_takeOff_7 : decode cX7_takeOff 7 = .ok (.if_icmp .ge 41, 3) := by decide +kernel
theorem dX7_takeOff_10 : decode cX7_takeOff 10 = .ok (.aload_n 0, 1) := by decide +kernel
theorem dX7_takeOff_11 : decode cX7_takeOff 11 = .ok (.getfield 19, 3) := by decide +kernel
theorem dX7_takeOff_14 : decode cX7_takeOff 14 = .ok (.aload_n 0, 1) := by decide +kernel
theorem dX7_takeOff_15 : decode cX7_takeOff 15 = .ok (.getfield 25, 3) := by decide +kernel
theorem dX7_takeOff_18 : decode cX7_takeOff 18 = .ok (.iload_n 1, 1) := by decide +kernel
theorem dX7_takeOff_19 : decode cX7_takeOff 19 = .ok (.iaload, 1) := by decide +kernel
theorem dX7_takeOff_20 : decode cX7_takeOff 20 = .ok (.bipush 40, 2) := by decide +kernel
theorem dX7_takeOff_22 : decode cX7_takeOff 22 = .ok (.imul, 1) := by decide +kernel
theorem dX7_takeOff_23 : decode cX7_takeOff 23 = .ok (.aload_n 0, 1) := by decide +kernel
theorem dX7_takeOff_24 : decode cX7_takeOff 24 = .ok (.getfield 25, 3) := by decide +kernel
theorem dX7_takeOff_27 : decode cX7_takeOff 27 = .ok (.aload_n 0, 1) := by decide +kernel
theorem dX7_takeOff_28 : decode cX7_takeOff 28 = .ok (.iload_n 1, 1) := by decide +kernel
theorem dX7_takeOff_29 : decode cX7_takeOff 29 = .ok (.invokevirtual 75, 3) := by decide +kernel
theorem dX7_takeOff_32 : decode cX7_takeOff 32 = .ok (.iaload, 1) := by decide +kernel
theorem dX7_takeOff_33 : decode cX7_takeOff 33 = .ok (.iadd, 1) := by decide +kernel
theorem dX7_takeOff_34 : decode cX7_takeOff 34 = .ok (.dup2, 1) := by decide +kernel
theorem dX7_takeOff_35 : decode cX7_takeOff 35 = .ok (.iaload, 1) := by decide +kernel
theorem dX7_takeOff_36 : decode cX7_takeOff 36 = .ok (.aload_n 0, 1) := by decide +kernel
theorem dX7_takeOff_37 : decode cX7_takeOff 37 = .ok (.getfield 34, 3) := by decide +kernel
theorem dX7_takeOff_40 : decode cX7_takeOff 40 = .ok (.isub, 1) := by decide +kernel
theorem dX7_takeOff_41 : decode cX7_takeOff 41 = .ok (.iastore, 1) := by decide +kernel
theorem dX7_takeOff_42 : decode cX7_takeOff 42 = .ok (.iinc 1 1, 3) := by decide +kernel
theorem dX7_takeOff_45 : decode cX7_takeOff 45 = .ok (.goto (-43), 3) := by decide +kernel
theorem dX7_takeOff_48 : decode cX7_takeOff 48 = .ok (.aload_n 0, 1) := by decide +kernel
theorem dX7_takeOff_49 : decode cX7_takeOff 49 = .ok (.getfield 9, 3) := by decide +kernel
theorem dX7_takeOff_52 : decode cX7_takeOff 52 = .ok (.ifCond .lt 35, 3) := by decide +kernel
theorem dX7_takeOff_55 : decode cX7_takeOff 55 = .ok (.aload_n 0, 1) := by decide +kernel
theorem dX7_takeOff_56 : decode cX7_takeOff 56 = .ok (.getfield 9, 3) := by decide +kernel
theorem dX7_takeOff_59 : decode cX7_takeOff 59 = .ok (.bipush 100, 2) := by decide +kernel
theorem dX7_takeOff_61 : decode cX7_takeOff 61 = .ok (.if_icmp .ge 26, 3) := by decide +kernel
theorem dX7_takeOff_64 : decode cX7_takeOff 64 = .ok (.aload_n 0, 1) := by decide +kernel
theorem dX7_takeOff_65 : decode cX7_takeOff 65 = .ok (.getfield 15, 3) := by decide +kernel
theorem dX7_takeOff_68 : decode cX7_takeOff 68 = .ok (.aload_n 0, 1) := by decide +kernel
theorem dX7_takeOff_69 : decode cX7_takeOff 69 = .ok (.getfield 9, 3) := by decide +kernel
theorem dX7_takeOff_72 : decode cX7_takeOff 72 = .ok (.aload_n 0, 1) := by decide +kernel
theorem dX7_takeOff_73 : decode cX7_takeOff 73 = .ok (.getfield 34, 3) := by decide +kernel
theorem dX7_takeOff_76 : decode cX7_takeOff 76 = .ok (.iastore, 1) := by decide +kernel
theorem dX7_takeOff_77 : decode cX7_takeOff 77 = .ok (.aload_n 0, 1) := by decide +kernel
theorem dX7_takeOff_78 : decode cX7_takeOff 78 = .ok (.dup, 1) := by decide +kernel
theorem dX7_takeOff_79 : decode cX7_takeOff 79 = .ok (.getfield 9, 3) := by decide +kernel
theorem dX7_takeOff_82 : decode cX7_takeOff 82 = .ok (.iconst 1, 1) := by decide +kernel
theorem dX7_takeOff_83 : decode cX7_takeOff 83 = .ok (.iadd, 1) := by decide +kernel
theorem dX7_takeOff_84 : decode cX7_takeOff 84 = .ok (.putfield 9, 3) := by decide +kernel
theorem dX7_takeOff_87 : decode cX7_takeOff 87 = .ok (.return_, 1) := by decide +kernel
theorem dX8_init_0 : decode cX8_init 0 = .ok (.aload_n 0, 1) := by decide +kernel
theorem dX8_init_1 : decode cX8_init 1 = .ok (.invokespecial 3, 3) := by decide +kernel
theorem dX8_init_4 : decode cX8_init 4 = .ok (.aload_n 0, 1) := by decide +kernel
theorem dX8_init_5 : decode cX8_init 5 = .ok (.bipush 8, 2) := by decide +kernel
theorem dX8_init_7 : decode cX8_init 7 = .ok (.newarray .int, 2) := by decide +kernel
theorem dX8_init_9 : decode cX8_init 9 = .ok (.putfield 9, 3) := by decide +kernel
theorem dX8_init_12 : decode cX8_init 12 = .ok (.aload_n 0, 1) := by decide +kernel
theorem dX8_init_13 : decode cX8_init 13 = .ok (.bipush 8, 2) := by decide +kernel
theorem dX8_init_15 : decode cX8_init 15 = .ok (.anewarray 15, 3) := by decide +kernel
theorem dX8_init_18 : decode cX8_init 18 = .ok (.putfield 17, 3) := by decide +kernel
theorem dX8_init_21 : decode cX8_init 21 = .ok (.aload_n 0, 1) := by decide +kernel
theorem dX8_init_22 : decode cX8_init 22 = .ok (.sipush 2048, 3) := by decide +kernel
theorem dX8_init_25 : decode cX8_init 25 = .ok (.newarray .int, 2) := by decide +kernel
theorem dX8_init_27 : decode cX8_init 27 = .ok (.putfield 21, 3) := by decide +kernel
theorem dX8_init_30 : decode cX8_init 30 = .ok (.return_, 1) := by decide +kernel
theorem dX8_isListed_0 : decode cX8_isListed 0 = .ok (.iconst 0, 1) := by decide +kernel
theorem dX8_isListed_1 : decode cX8_isListed 1 = .ok (.istore_n 2, 1) := by decide +kernel
theorem dX8_isListed_2 : decode cX8_isListed 2 = .ok (.iload_n 2, 1) := by decide +kernel
theorem dX8_isListed_3 : decode cX8_isListed 3 = .ok (.aload_n 0, 1) := by decide +kernel
theorem dX8_isListed_4 : decode cX8_isListed 4 = .ok (.getfield 24, 3) := by decide +kernel
theorem dX8_isListed_7 : decode cX8_isListed 7 = .ok (.if_icmp .ge 21, 3) := by decide +kernel
theorem dX8_isListed_10 : decode cX8_isListed 10 = .ok (.aload_n 0, 1) := by decide +kernel
theorem dX8_isListed_11 : decode cX8_isListed 11 = .ok (.getfield 17, 3) := by decide +kernel
theorem dX8_isListed_14 : decode cX8_isListed 14 = .ok (.iload_n 2, 1) := by decide +kernel
theorem dX8_isListed_15 : decode cX8_isListed 15 = .ok (.aaload, 1) := by decide +kernel
theorem dX8_isListed_16 : decode cX8_isListed 16 = .ok (.aload_n 1, 1) := by decide +kernel
theorem dX8_isListed_17 : decode cX8_isListed 17 = .ok (.if_acmp .ne 5, 3) := by decide +kernel
theorem dX8_isListed_20 : decode cX8_isListed 20 = .ok (.iconst 1, 1) := by decide +kernel
theorem dX8_isListed_21 : decode cX8_isListed 21 = .ok (.ireturn, 1) := by decide +kernel
theorem dX8_isListed_22 : decode cX8_isListed 22 = .ok (.iinc 2 1, 3) := by decide +kernel
theorem dX8_isListed_25 : decode cX8_isListed 25 = .ok (.goto (-23), 3) := by decide +kernel
theorem dX8_isListed_28 : decode cX8_isListed 28 = .ok (.iconst 0, 1) := by decide +kernel
theorem dX8_isListed_29 : decode cX8_isListed 29 = .ok (.ireturn, 1) := by decide +kernel
theorem dX8_putOnList_0 : decode cX8_putOnList 0 = .ok (.aload_n 0, 1) := by decide +kernel
theorem dX8_putOnList_1 : decode cX8_putOnList 1 = .ok (.getfield 24, 3) := by decide +kernel
theorem dX8_putOnList_4 : decode cX8_putOnList 4 = .ok (.bipush 8, 2) := by decide +kernel
theorem dX8_putOnList_6 : decode cX8_putOnList 6 = .ok (.if_icmp .lt 4, 3) := by decide +kernel
theorem dX8_putOnList_9 : decode cX8_putOnList 9 = .ok (.return_, 1) := by decide +kernel
theorem dX8_putOnList_10 : decode cX8_putOnList 10 = .ok (.aload_n 0, 1) := by decide +kernel
theorem dX8_putOnList_11 : decode cX8_putOnList 11 = .ok (.getfield 24, 3) := by decide +kernel
theorem dX8_putOnList_14 : decode cX8_putOnList 14 = .ok (.istore_n 2, 1) := by decide +kernel
