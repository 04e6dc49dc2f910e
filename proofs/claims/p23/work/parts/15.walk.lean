theorem dX8_isIn_0 : decode cX8_isIn 0 = .ok (.iload_n 1, 1) := by decide +kernel
theorem dX8_isIn_1 : decode cX8_isIn 1 = .ok (.iload_n 0, 1) := by decide +kernel
theorem dX8_isIn_2 : decode cX8_isIn 2 = .ok (.ishr, 1) := by decide +kernel
theorem dX8_isIn_3 : decode cX8_isIn 3 = .ok (.iconst 1, 1) := by decide +kernel
theorem dX8_isIn_4 : decode cX8_isIn 4 = .ok (.iand, 1) := by decide +kernel
theorem dX8_isIn_5 : decode cX8_isIn 5 = .ok (.iconst 1, 1) := by decide +kernel
theorem dX8_isIn_6 : decode cX8_isIn 6 = .ok (.if_icmp .ne 7, 3) := by decide +kernel
theorem dX8_isIn_9 : decode cX8_isIn 9 = .ok (.iconst 1, 1) := by decide +kernel
theorem dX8_isIn_10 : decode cX8_isIn 10 = .ok (.goto 4, 3) := by decide +kernel
theorem dX8_isIn_13 : decode cX8_isIn 13 = .ok (.iconst 0, 1) := by decide +kernel
theorem dX8_isIn_14 : decode cX8_isIn 14 = .ok (.ireturn, 1) := by decide +kernel
theorem dX8_between_0 : decode cX8_between 0 = .ok (.aload_n 0, 1) := by decide +kernel
theorem dX8_between_1 : decode cX8_between 1 = .ok (.getfield 71, 3) := by decide +kernel
theorem dX8_between_4 : decode cX8_between 4 = .ok (.aload_n 1, 1) := by decide +kernel
theorem dX8_between_5 : decode cX8_between 5 = .ok (.getfield 71, 3) := by decide +kernel
theorem dX8_between_8 : decode cX8_between 8 = .ok (.isub, 1) := by decide +kernel
theorem dX8_between_9 : decode cX8_between 9 = .ok (.invokestatic 76, 3) := by decide +kernel
theorem dX8_between_12 : decode cX8_between 12 = .ok (.aload_n 0, 1) := by decide +kernel
theorem dX8_between_13 : decode cX8_between 13 = .ok (.getfield 79, 3) := by decide +kernel
theorem dX8_between_16 : decode cX8_between 16 = .ok (.aload_n 1, 1) := by decide +kernel
theorem dX8_between_17 : decode cX8_between 17 = .ok (.getfield 79, 3) := by decide +kernel
theorem dX8_between_20 : decode cX8_between 20 = .ok (.isub, 1) := by decide +kernel
theorem dX8_between_21 : decode cX8_between 21 = .ok (.invokestatic 76, 3) := by decide +kernel
theorem dX8_between_24 : decode cX8_between 24 = .ok (.iadd, 1) := by decide +kernel
theorem dX8_between_25 : decode cX8_between 25 = .ok (.ireturn, 1) := by decide +kernel