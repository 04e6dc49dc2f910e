theorem dX9_sumOfSplit_0 : decode cX9_sumOfSplit 0 = .ok (.iconst 0, 1) := by decide +kernel
theorem dX9_sumOfSplit_1 : decode cX9_sumOfSplit 1 = .ok (.istore_n 3, 1) := by decide +kernel
theorem dX9_sumOfSplit_2 : decode cX9_sumOfSplit 2 = .ok (.iconst 0, 1) := by decide +kernel
theorem dX9_sumOfSplit_3 : decode cX9_sumOfSplit 3 = .ok (.istore 4, 2) := by decide +kernel
theorem dX9_sumOfSplit_5 : decode cX9_sumOfSplit 5 = .ok (.iload 4, 2) := by decide +kernel
theorem dX9_sumOfSplit_7 : decode cX9_sumOfSplit 7 = .ok (.aload_n 0, 1) := by decide +kernel
theorem dX9_sumOfSplit_8 : decode cX9_sumOfSplit 8 = .ok (.getfield 181, 3) := by decide +kernel
theorem dX9_sumOfSplit_11 : decode cX9_sumOfSplit 11 = .ok (.if_icmp .ge 69, 3) := by decide +kernel
theorem dX9_sumOfSplit_14 : decode cX9_sumOfSplit 14 = .ok (.aload_n 0, 1) := by decide +kernel
theorem dX9_sumOfSplit_15 : decode cX9_sumOfSplit 15 = .ok (.getfield 48, 3) := by decide +kernel
theorem dX9_sumOfSplit_18 : decode cX9_sumOfSplit 18 = .ok (.iload 4, 2) := by decide +kernel
theorem dX9_sumOfSplit_20 : decode cX9_sumOfSplit 20 = .ok (.aaload, 1) := by decide +kernel
theorem dX9_sumOfSplit_21 : decode cX9_sumOfSplit 21 = .ok (.astore 5, 2) := by decide +kernel
theorem dX9_sumOfSplit_23 : decode cX9_sumOfSplit 23 = .ok (.aload 5, 2) := by decide +kernel
theorem dX9_sumOfSplit_25 : decode cX9_sumOfSplit 25 = .ok (.getfield 223, 3) := by decide +kernel
theorem dX9_sumOfSplit_28 : decode cX9_sumOfSplit 28 = .ok (.aload_n 1, 1) := by decide +kernel
theorem dX9_sumOfSplit_29 : decode cX9_sumOfSplit 29 = .ok (.getfield 223, 3) := by decide +kernel
theorem dX9_sumOfSplit_32 : decode cX9_sumOfSplit 32 = .ok (.if_acmp .ne 42, 3) := by decide +kernel
theorem dX9_sumOfSplit_35 : decode cX9_sumOfSplit 35 = .ok (.aload 5, 2) := by decide +kernel
theorem dX9_sumOfSplit_37 : decode cX9_sumOfSplit 37 = .ok (.getfield 212, 3) := by decide +kernel
theorem dX9_sumOfSplit_40 : decode cX9_sumOfSplit 40 = .ok (.aload_n 1, 1) := by decide +kernel
theorem dX9_sumOfSplit_41 : decode cX9_sumOfSplit 41 = .ok (.getfield 212, 3) := by decide +kernel
theorem dX9_sumOfSplit_44 : decode cX9_sumOfSplit 44 = .ok (.if_acmp .ne 30, 3) := by decide +kernel
theorem dX9_sumOfSplit_47 : decode cX9_sumOfSplit 47 = .ok (.aload 5, 2) := by decide +kernel
theorem dX9_sumOfSplit_49 : decode cX9_sumOfSplit 49 = .ok (.getfield 193, 3) := by decide +kernel
theorem dX9_sumOfSplit_52 : decode cX9_sumOfSplit 52 = .ok (.aload_n 1, 1) := by decide +kernel
theorem dX9_sumOfSplit_53 : decode cX9_sumOfSplit 53 = .ok (.getfield 193, 3) := by decide +kernel
theorem dX9_sumOfSplit_56 : decode cX9_sumOfSplit 56 = .ok (.aload_n 2, 1) := by decide +kernel
theorem dX9_sumOfSplit_57 : decode cX9_sumOfSplit 57 = .ok (.getfield 119, 3) := by decide +kernel
theorem dX9_sumOfSplit_60 : decode cX9_sumOfSplit 60 = .ok (.iconst 2, 1) := by decide +kernel
theorem dX9_sumOfSplit_61 : decode cX9_sumOfSplit 61 = .ok (.iaload, 1) := by decide +kernel
theorem dX9_sumOfSplit_62 : decode cX9_sumOfSplit 62 = .ok (.isub, 1) := by decide +kernel
theorem dX9_sumOfSplit_63 : decode cX9_sumOfSplit 63 = .ok (.if_icmp .lt 11, 3) := by decide +kernel
theorem dX9_sumOfSplit_66 : decode cX9_sumOfSplit 66 = .ok (.iload_n 3, 1) := by decide +kernel
theorem dX9_sumOfSplit_67 : decode cX9_sumOfSplit 67 = .ok (.aload 5, 2) := by decide +kernel
theorem dX9_sumOfSplit_69 : decode cX9_sumOfSplit 69 = .ok (.getfield 187, 3) := by decide +kernel
theorem dX9_sumOfSplit_72 : decode cX9_sumOfSplit 72 = .ok (.iadd, 1) := by decide +kernel
theorem dX9_sumOfSplit_73 : decode cX9_sumOfSplit 73 = .ok (.istore_n 3, 1) := by decide +kernel
theorem dX9_sumOfSplit_74 : decode cX9_sumOfSplit 74 = .ok (.iinc 4 1, 3) := by decide +kernel
theorem dX9_sumOfSplit_77 : decode cX9_sumOfSplit 77 = .ok (.goto (-72), 3) := by decide +kernel
theorem dX9_sumOfSplit_80 : decode cX9_sumOfSplit 80 = .ok (.iload_n 3, 1) := by decide +kernel
theorem dX9_sumOfSplit_81 : decode cX9_sumOfSplit 81 = .ok (.ireturn, 1) := by decide +kernel