theorem dX8_isListed_0 : decode cX8_isListed 0 = .ok (.iconst 0, 1) := by decide +kernel
theorem dX8_isListed_1 : decode cX8_isListed 1 = .ok (.istore_n 2, 1) := by decide +kernel
theorem dX8_isListed_2 : decode cX8_isListed 2 = .ok (.iload_n 2, 1) := by decide +kernel
theorem dX8_isListed_3 : decode cX8_isListed 3 = .ok (.aload_n 0, 1) := by decide +kernel
theorem dX8_isListed_4 : decode cX8_isListed 4 = .ok (.getfield 24, 3) := by decide +kernel
theorem dX8_isListed_7 : decode cX8_isListed 7 = .ok (.if_icmp .ge 21, 3) := by decide +kernel
theorem dX8_isListed_10 : decode cX8_isListed 10 = .ok (.aload_n 0, 1) := by decide +kernel
theorem dX8_isListed_11 : decode cX8_isListed 11 = .ok (.getfield 17, 3) := by decide +kernel
theorem dX8_isListed_14 : decode cX8_isListed 14 = .ok (.iload_n 2, 1) := by decide +kernel
theorem dX8_isListed_15 : decode cX8_isListed 15 = .ok (.aaload, 1) := by decide +kernel
theorem dX8_isListed_16 : decode cX8_isListed 16 = .ok (.aload_n 1, 1) := by decide +kernel
theorem dX8_isListed_17 : decode cX8_isListed 17 = .ok (.if_acmp .ne 5, 3) := by decide +kernel
theorem dX8_isListed_20 : decode cX8_isListed 20 = .ok (.iconst 1, 1) := by decide +kernel
theorem dX8_isListed_21 : decode cX8_isListed 21 = .ok (.ireturn, 1) := by decide +kernel
theorem dX8_isListed_22 : decode cX8_isListed 22 = .ok (.iinc 2 1, 3) := by decide +kernel
theorem dX8_isListed_25 : decode cX8_isListed 25 = .ok (.goto (-23), 3) := by decide +kernel
theorem dX8_isListed_28 : decode cX8_isListed 28 = .ok (.iconst 0, 1) := by decide +kernel
theorem dX8_isListed_29 : decode cX8_isListed 29 = .ok (.ireturn, 1) := by decide +kernel