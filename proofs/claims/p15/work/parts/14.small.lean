theorem dX9_isWithin_0 : decode cX9_isWithin 0 = .ok (.iload_n 0, 1) := by decide +kernel
theorem dX9_isWithin_1 : decode cX9_isWithin 1 = .ok (.iload_n 1, 1) := by decide +kernel
theorem dX9_isWithin_2 : decode cX9_isWithin 2 = .ok (.if_icmp .lt 12, 3) := by decide +kernel
theorem dX9_isWithin_5 : decode cX9_isWithin 5 = .ok (.iload_n 0, 1) := by decide +kernel
theorem dX9_isWithin_6 : decode cX9_isWithin 6 = .ok (.iload_n 2, 1) := by decide +kernel
theorem dX9_isWithin_7 : decode cX9_isWithin 7 = .ok (.if_icmp .gt 7, 3) := by decide +kernel
theorem dX9_isWithin_10 : decode cX9_isWithin 10 = .ok (.iconst 1, 1) := by decide +kernel
theorem dX9_isWithin_11 : decode cX9_isWithin 11 = .ok (.goto 4, 3) := by decide +kernel
theorem dX9_isWithin_14 : decode cX9_isWithin 14 = .ok (.iconst 0, 1) := by decide +kernel
theorem dX9_isWithin_15 : decode cX9_isWithin 15 = .ok (.ireturn, 1) := by decide +kernel
theorem dX9_isHousehold_0 : decode cX9_isHousehold 0 = .ok (.iload_n 0, 1) := by decide +kernel
theorem dX9_isHousehold_1 : decode cX9_isHousehold 1 = .ok (.iconst 0, 1) := by decide +kernel
theorem dX9_isHousehold_2 : decode cX9_isHousehold 2 = .ok (.sipush 9999, 3) := by decide +kernel
theorem dX9_isHousehold_5 : decode cX9_isHousehold 5 = .ok (.invokestatic 128, 3) := by decide +kernel
theorem dX9_isHousehold_8 : decode cX9_isHousehold 8 = .ok (.ifCond .eq 37, 3) := by decide +kernel
theorem dX9_isHousehold_11 : decode cX9_isHousehold 11 = .ok (.iload_n 1, 1) := by decide +kernel
theorem dX9_isHousehold_12 : decode cX9_isHousehold 12 = .ok (.iconst 1, 1) := by decide +kernel
theorem dX9_isHousehold_13 : decode cX9_isHousehold 13 = .ok (.bipush 20, 2) := by decide +kernel
theorem dX9_isHousehold_15 : decode cX9_isHousehold 15 = .ok (.invokestatic 128, 3) := by decide +kernel
theorem dX9_isHousehold_18 : decode cX9_isHousehold 18 = .ok (.ifCond .eq 27, 3) := by decide +kernel
theorem dX9_isHousehold_21 : decode cX9_isHousehold 21 = .ok (.iload_n 2, 1) := by decide +kernel
theorem dX9_isHousehold_22 : decode cX9_isHousehold 22 = .ok (.iconst 0, 1) := by decide +kernel
theorem dX9_isHousehold_23 : decode cX9_isHousehold 23 = .ok (.bipush 99, 2) := by decide +kernel
theorem dX9_isHousehold_25 : decode cX9_isHousehold 25 = .ok (.invokestatic 128, 3) := by decide +kernel
theorem dX9_isHousehold_28 : decode cX9_isHousehold 28 = .ok (.ifCond .eq 17, 3) := by decide +kernel
theorem dX9_isHousehold_31 : decode cX9_isHousehold 31 = .ok (.iload_n 3, 1) := by decide +kernel
theorem dX9_isHousehold_32 : decode cX9_isHousehold 32 = .ok (.iconst 0, 1) := by decide +kernel
theorem dX9_isHousehold_33 : decode cX9_isHousehold 33 = .ok (.bipush 99, 2) := by decide +kernel
theorem dX9_isHousehold_35 : decode cX9_isHousehold 35 = .ok (.invokestatic 128, 3) := by decide +kernel
theorem dX9_isHousehold_38 : decode cX9_isHousehold 38 = .ok (.ifCond .eq 7, 3) := by decide +kernel
theorem dX9_isHousehold_41 : decode cX9_isHousehold 41 = .ok (.iconst 1, 1) := by decide +kernel
theorem dX9_isHousehold_42 : decode cX9_isHousehold 42 = .ok (.goto 4, 3) := by decide +kernel
theorem dX9_isHousehold_45 : decode cX9_isHousehold 45 = .ok (.iconst 0, 1) := by decide +kernel
theorem dX9_isHousehold_46 : decode cX9_isHousehold 46 = .ok (.ireturn, 1) := by decide +kernel
theorem dX4_tell_0 : decode cX4_tell 0 = .ok (.aload_n 0, 1) := by decide +kernel
theorem dX4_tell_1 : decode cX4_tell 1 = .ok (.iload_n 1, 1) := by decide +kernel
theorem dX4_tell_2 : decode cX4_tell 2 = .ok (.putfield 21, 3) := by decide +kernel
theorem dX4_tell_5 : decode cX4_tell 5 = .ok (.aload_n 0, 1) := by decide +kernel
theorem dX4_tell_6 : decode cX4_tell 6 = .ok (.iload_n 2, 1) := by decide +kernel
theorem dX4_tell_7 : decode cX4_tell 7 = .ok (.putfield 24, 3) := by decide +kernel
theorem dX4_tell_10 : decode cX4_tell 10 = .ok (.aload_n 0, 1) := by decide +kernel
theorem dX4_tell_11 : decode cX4_tell 11 = .ok (.iload_n 3, 1) := by decide +kernel
theorem dX4_tell_12 : decode cX4_tell 12 = .ok (.putfield 27, 3) := by decide +kernel
theorem dX4_tell_15 : decode cX4_tell 15 = .ok (.aload_n 0, 1) := by decide +kernel
theorem dX4_tell_16 : decode cX4_tell 16 = .ok (.iload 4, 2) := by decide +kernel
theorem dX4_tell_18 : decode cX4_tell 18 = .ok (.putfield 30, 3) := by decide +kernel
theorem dX4_tell_21 : decode cX4_tell 21 = .ok (.return_, 1) := by decide +kernel
theorem dX2_costsBy_0 : decode cX2_costsBy 0 = .ok (.aload_n 0, 1) := by decide +kernel
theorem dX2_costsBy_1 : decode cX2_costsBy 1 = .ok (.getfield 48, 3) := by decide +kernel
theorem dX2_costsBy_4 : decode cX2_costsBy 4 = .ok (.aload_n 1, 1) := by decide +kernel
theorem dX2_costsBy_5 : decode cX2_costsBy 5 = .ok (.getfield 51, 3) := by decide +kernel
theorem dX2_costsBy_8 : decode cX2_costsBy 8 = .ok (.bipush 10, 2) := by decide +kernel
theorem dX2_costsBy_10 : decode cX2_costsBy 10 = .ok (.iaload, 1) := by decide +kernel
theorem dX2_costsBy_11 : decode cX2_costsBy 11 = .ok (.imul, 1) := by decide +kernel
theorem dX2_costsBy_12 : decode cX2_costsBy 12 = .ok (.aload_n 1, 1) := by decide +kernel
theorem dX2_costsBy_13 : decode cX2_costsBy 13 = .ok (.getfield 51, 3) := by decide +kernel
theorem dX2_costsBy_16 : decode cX2_costsBy 16 = .ok (.bipush 11, 2) := by decide +kernel
theorem dX2_costsBy_18 : decode cX2_costsBy 18 = .ok (.iaload, 1) := by decide +kernel
theorem dX2_costsBy_19 : decode cX2_costsBy 19 = .ok (.iadd, 1) := by decide +kernel
theorem dX2_costsBy_20 : decode cX2_costsBy 20 = .ok (.istore_n 3, 1) := by decide +kernel
theorem dX2_costsBy_21 : decode cX2_costsBy 21 = .ok (.iload_n 2, 1) := by decide +kernel
theorem dX2_costsBy_22 : decode cX2_costsBy 22 = .ok (.ifCond .eq 15, 3) := by decide +kernel
theorem dX2_costsBy_25 : decode cX2_costsBy 25 = .ok (.iload_n 3, 1) := by decide +kernel
theorem dX2_costsBy_26 : decode cX2_costsBy 26 = .ok (.aload_n 1, 1) := by decide +kernel
theorem dX2_costsBy_27 : decode cX2_costsBy 27 = .ok (.getfield 51, 3) := by decide +kernel
theorem dX2_costsBy_30 : decode cX2_costsBy 30 = .ok (.bipush 12, 2) := by decide +kernel
theorem dX2_costsBy_32 : decode cX2_costsBy 32 = .ok (.iaload, 1) := by decide +kernel
theorem dX2_costsBy_33 : decode cX2_costsBy 33 = .ok (.iadd, 1) := by decide +kernel
theorem dX2_costsBy_34 : decode cX2_costsBy 34 = .ok (.goto 4, 3) := by decide +kernel
theorem dX2_costsBy_37 : decode cX2_costsBy 37 = .ok (.iload_n 3, 1) := by decide +kernel
theorem dX2_costsBy_38 : decode cX2_costsBy 38 = .ok (.ireturn, 1) := by decide +kernel