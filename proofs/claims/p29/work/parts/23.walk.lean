theorem dX8_fromCourt_0 : decode cX8_fromCourt 0 = .ok (.aload_n 0, 1) := by decide +kernel
theorem dX8_fromCourt_1 : decode cX8_fromCourt 1 = .ok (.getfield 17, 3) := by decide +kernel
theorem dX8_fromCourt_4 : decode cX8_fromCourt 4 = .ok (.iload_n 1, 1) := by decide +kernel
theorem dX8_fromCourt_5 : decode cX8_fromCourt 5 = .ok (.aaload, 1) := by decide +kernel
theorem dX8_fromCourt_6 : decode cX8_fromCourt 6 = .ok (.getfield 63, 3) := by decide +kernel
theorem dX8_fromCourt_9 : decode cX8_fromCourt 9 = .ok (.astore_n 2, 1) := by decide +kernel
theorem dX8_fromCourt_10 : decode cX8_fromCourt 10 = .ok (.aload_n 2, 1) := by decide +kernel
theorem dX8_fromCourt_11 : decode cX8_fromCourt 11 = .ok (.getfield 71, 3) := by decide +kernel
theorem dX8_fromCourt_14 : decode cX8_fromCourt 14 = .ok (.bipush 50, 2) := by decide +kernel
theorem dX8_fromCourt_16 : decode cX8_fromCourt 16 = .ok (.isub, 1) := by decide +kernel
theorem dX8_fromCourt_17 : decode cX8_fromCourt 17 = .ok (.invokestatic 76, 3) := by decide +kernel
theorem dX8_fromCourt_20 : decode cX8_fromCourt 20 = .ok (.aload_n 2, 1) := by decide +kernel
theorem dX8_fromCourt_21 : decode cX8_fromCourt 21 = .ok (.getfield 79, 3) := by decide +kernel
theorem dX8_fromCourt_24 : decode cX8_fromCourt 24 = .ok (.bipush 50, 2) := by decide +kernel
theorem dX8_fromCourt_26 : decode cX8_fromCourt 26 = .ok (.isub, 1) := by decide +kernel
theorem dX8_fromCourt_27 : decode cX8_fromCourt 27 = .ok (.invokestatic 76, 3) := by decide +kernel
theorem dX8_fromCourt_30 : decode cX8_fromCourt 30 = .ok (.iadd, 1) := by decide +kernel
theorem dX8_fromCourt_31 : decode cX8_fromCourt 31 = .ok (.ireturn, 1) := by decide +kernel
def wLX8_stepsBy_0 : List Nat := [28, 2, 160, 0, 11, 42, 29, 182, 0, 35, 167, 0, 24, 42, 180, 0, 17, 28, 50, 180, 0, 63, 42, 180, 0, 17, 29, 50, 180, 0, 63, 184, 0, 67, 54, 4, 21, 4, 42, 180, 0, 21, 27, 4, 29, 120, 128, 16, 8, 104, 29, 96, 46, 96, 172]
theorem wX8_stepsBy_0 : (cX8_stepsBy.data.toList.map UInt8.toNat).drop 0 = wLX8_stepsBy_0 ++ ([]) := by decide +kernel
theorem dX8_stepsBy_0 : decode cX8_stepsBy 0 = .ok (.iload_n 2, 1) := dq_28 (hz_wg wX8_stepsBy_0 (j := 0) (n := 28) rfl)
theorem dX8_stepsBy_1 : decode cX8_stepsBy 1 = .ok (.iconst (-1), 1) := dq_2 (hz_wg wX8_stepsBy_0 (j := 1) (n := 2) rfl)
theorem dX8_stepsBy_2 : decode cX8_stepsBy 2 = .ok (.if_icmp .ne 11, 3) := dq_160 (hz_wg wX8_stepsBy_0 (j := 2) (n := 160) rfl) (hz_wg wX8_stepsBy_0 (j := 3) (n := 0) rfl) (hz_wg wX8_stepsBy_0 (j := 4) (n := 11) rfl) (by decide)
theorem dX8_stepsBy_5 : decode cX8_stepsBy 5 = .ok (.aload_n 0, 1) := dq_42 (hz_wg wX8_stepsBy_0 (j := 5) (n := 42) rfl)
theorem dX8_stepsBy_6 : decode cX8_stepsBy 6 = .ok (.iload_n 3, 1) := dq_29 (hz_wg wX8_stepsBy_0 (j := 6) (n := 29) rfl)
theorem dX8_stepsBy_7 : decode cX8_stepsBy 7 = .ok (.invokevirtual 35, 3) := dq_182 (hz_wg wX8_stepsBy_0 (j := 7) (n := 182) rfl) (hz_wg wX8_stepsBy_0 (j := 8) (n := 0) rfl) (hz_wg wX8_stepsBy_0 (j := 9) (n := 35) rfl) rfl
theorem dX8_stepsBy_10 : decode cX8_stepsBy 10 = .ok (.goto 24, 3) := dq_167 (hz_wg wX8_stepsBy_0 (j := 10) (n := 167) rfl) (hz_wg wX8_stepsBy_0 (j := 11) (n := 0) rfl) (hz_wg wX8_stepsBy_0 (j := 12) (n := 24) rfl) (by decide)
theorem dX8_stepsBy_13 : decode cX8_stepsBy 13 = .ok (.aload_n 0, 1) := dq_42 (hz_wg wX8_stepsBy_0 (j := 13) (n := 42) rfl)
theorem dX8_stepsBy_14 : decode cX8_stepsBy 14 = .ok (.getfield 17, 3) := dq_180 (hz_wg wX8_stepsBy_0 (j := 14) (n := 180) rfl) (hz_wg wX8_stepsBy_0 (j := 15) (n := 0) rfl) (hz_wg wX8_stepsBy_0 (j := 16) (n := 17) rfl) rfl
theorem dX8_stepsBy_17 : decode cX8_stepsBy 17 = .ok (.iload_n 2, 1) := dq_28 (hz_wg wX8_stepsBy_0 (j := 17) (n := 28) rfl)
theorem dX8_stepsBy_18 : decode cX8_stepsBy 18 = .ok (.aaload, 1) := dq_50 (hz_wg wX8_stepsBy_0 (j := 18) (n := 50) rfl)
theorem dX8_stepsBy_19 : decode cX8_stepsBy 19 = .ok (.getfield 63, 3) := dq_180 (hz_wg wX8_stepsBy_0 (j := 19) (n := 180) rfl) (hz_wg wX8_stepsBy_0 (j := 20) (n := 0) rfl) (hz_wg wX8_stepsBy_0 (j := 21) (n := 63) rfl) rfl
theorem dX8_stepsBy_22 : decode cX8_stepsBy 22 = .ok (.aload_n 0, 1) := dq_42 (hz_wg wX8_stepsBy_0 (j := 22) (n := 42) rfl)
theorem dX8_stepsBy_23 : decode cX8_stepsBy 23 = .ok (.getfield 17, 3) := dq_180 (hz_wg wX8_stepsBy_0 (j := 23) (n := 180) rfl) (hz_wg wX8_stepsBy_0 (j := 24) (n := 0) rfl) (hz_wg wX8_stepsBy_0 (j := 25) (n := 17) rfl) rfl
theorem dX8_stepsBy_26 : decode cX8_stepsBy 26 = .ok (.iload_n 3, 1) := dq_29 (hz_wg wX8_stepsBy_0 (j := 26) (n := 29) rfl)
theorem dX8_stepsBy_27 : decode cX8_stepsBy 27 = .ok (.aaload, 1) := dq_50 (hz_wg wX8_stepsBy_0 (j := 27) (n := 50) rfl)
theorem dX8_stepsBy_28 : decode cX8_stepsBy 28 = .ok (.getfield 63, 3) := dq_180 (hz_wg wX8_stepsBy_0 (j := 28) (n := 180) rfl) (hz_wg wX8_stepsBy_0 (j := 29) (n := 0) rfl) (hz_wg wX8_stepsBy_0 (j := 30) (n := 63) rfl) rfl
theorem dX8_stepsBy_31 : decode cX8_stepsBy 31 = .ok (.invokestatic 67, 3) := dq_184 (hz_wg wX8_stepsBy_0 (j := 31) (n := 184) rfl) (hz_wg wX8_stepsBy_0 (j := 32) (n := 0) rfl) (hz_wg wX8_stepsBy_0 (j := 33) (n := 67) rfl) rfl
theorem dX8_stepsBy_34 : decode cX8_stepsBy 34 = .ok (.istore 4, 2) := dq_54 (hz_wg wX8_stepsBy_0 (j := 34) (n := 54) rfl) (hz_wg wX8_stepsBy_0 (j := 35) (n := 4) rfl)
theorem dX8_stepsBy_36 : decode cX8_stepsBy 36 = .ok (.iload 4, 2) := dq_21 (hz_wg wX8_stepsBy_0 (j := 36) (n := 21) rfl) (hz_wg wX8_stepsBy_0 (j := 37) (n := 4) rfl)
theorem dX8_stepsBy_38 : decode cX8_stepsBy 38 = .ok (.aload_n 0, 1) := dq_42 (hz_wg wX8_stepsBy_0 (j := 38) (n := 42) rfl)
theorem dX8_stepsBy_39 : decode cX8_stepsBy 39 = .ok (.getfield 21, 3) := dq_180 (hz_wg wX8_stepsBy_0 (j := 39) (n := 180) rfl) (hz_wg wX8_stepsBy_0 (j := 40) (n := 0) rfl) (hz_wg wX8_stepsBy_0 (j := 41) (n := 21) rfl) rfl
theorem dX8_stepsBy_42 : decode cX8_stepsBy 42 = .ok (.iload_n 1, 1) := dq_27 (hz_wg wX8_stepsBy_0 (j := 42) (n := 27) rfl)
theorem dX8_stepsBy_43 : decode cX8_stepsBy 43 = .ok (.iconst 1, 1) := dq_4 (hz_wg wX8_stepsBy_0 (j := 43) (n := 4) rfl)
theorem dX8_stepsBy_44 : decode cX8_stepsBy 44 = .ok (.iload_n 3, 1) := dq_29 (hz_wg wX8_stepsBy_0 (j := 44) (n := 29) rfl)
theorem dX8_stepsBy_45 : decode cX8_stepsBy 45 = .ok (.ishl, 1) := dq_120 (hz_wg wX8_stepsBy_0 (j := 45) (n := 120) rfl)
theorem dX8_stepsBy_46 : decode cX8_stepsBy 46 = .ok (.ior, 1) := dq_128 (hz_wg wX8_stepsBy_0 (j := 46) (n := 128) rfl)
theorem dX8_stepsBy_47 : decode cX8_stepsBy 47 = .ok (.bipush 8, 2) := dq_16 (hz_wg wX8_stepsBy_0 (j := 47) (n := 16) rfl) (hz_wg wX8_stepsBy_0 (j := 48) (n := 8) rfl) (by decide)
theorem dX8_stepsBy_49 : decode cX8_stepsBy 49 = .ok (.imul, 1) := dq_104 (hz_wg wX8_stepsBy_0 (j := 49) (n := 104) rfl)
theorem dX8_stepsBy_50 : decode cX8_stepsBy 50 = .ok (.iload_n 3, 1) := dq_29 (hz_wg wX8_stepsBy_0 (j := 50) (n := 29) rfl)
theorem dX8_stepsBy_51 : decode cX8_stepsBy 51 = .ok (.iadd, 1) := dq_96 (hz_wg wX8_stepsBy_0 (j := 51) (n := 96) rfl)
theorem dX8_stepsBy_52 : decode cX8_stepsBy 52 = .ok (.iaload, 1) := dq_46 (hz_wg wX8_stepsBy_0 (j := 52) (n := 46) rfl)
theorem dX8_stepsBy_53 : decode cX8_stepsBy 53 = .ok (.iadd, 1) := dq_96 (hz_wg wX8_stepsBy_0 (j := 53) (n := 96) rfl)
theorem dX8_stepsBy_54 : decode cX8_stepsBy 54 = .ok (.ireturn, 1) := dq_172 (hz_wg wX8_stepsBy_0 (j := 54) (n := 172) rfl)
def wLX8_leastOn_0 : List Nat := [18, 50, 62, 3, 54, 4, 21, 4, 42, 180, 0, 24, 162, 0, 31, 21, 4, 27, 184, 0, 31, 154, 0, 16, 29, 42, 27, 28, 21, 4, 182, 0, 51, 184, 0, 55, 62, 132, 4, 1, 167, 255, 222, 29, 172]
theorem wX8_leastOn_0 : (cX8_leastOn.data.toList.map UInt8.toNat).drop 0 = wLX8_leastOn_0 ++ ([]) := by decide +kernel
theorem dX8_leastOn_0 : decode cX8_leastOn 0 = .ok (.ldc 50, 2) := dq_18 (hz_wg wX8_leastOn_0 (j := 0) (n := 18) rfl) (hz_wg wX8_leastOn_0 (j := 1) (n := 50) rfl)
theorem dX8_leastOn_2 : decode cX8_leastOn 2 = .ok (.istore_n 3, 1) := dq_62 (hz_wg wX8_leastOn_0 (j := 2) (n := 62) rfl)
theorem dX8_leastOn_3 : decode cX8_leastOn 3 = .ok (.iconst 0, 1) := dq_3 (hz_wg wX8_leastOn_0 (j := 3) (n := 3) rfl)
theorem dX8_leastOn_4 : decode cX8_leastOn 4 = .ok (.istore 4, 2) := dq_54 (hz_wg wX8_leastOn_0 (j := 4) (n := 54) rfl) (hz_wg wX8_leastOn_0 (j := 5) (n := 4) rfl)
theorem dX8_leastOn_6 : decode cX8_leastOn 6 = .ok (.iload 4, 2) := dq_21 (hz_wg wX8_leastOn_0 (j := 6) (n := 21) rfl) (hz_wg wX8_leastOn_0 (j := 7) (n := 4) rfl)
theorem dX8_leastOn_8 : decode cX8_leastOn 8 = .ok (.aload_n 0, 1) := dq_42 (hz_wg wX8_leastOn_0 (j := 8) (n := 42) rfl)
theorem dX8_leastOn_9 : decode cX8_leastOn 9 = .ok (.getfield 24, 3) := dq_180 (hz_wg wX8_leastOn_0 (j := 9) (n := 180) rfl) (hz_wg wX8_leastOn_0 (j := 10) (n := 0) rfl) (hz_wg wX8_leastOn_0 (j := 11) (n := 24) rfl) rfl
theorem dX8_leastOn_12 : decode cX8_leastOn 12 = .ok (.if_icmp .ge 31, 3) := dq_162 (hz_wg wX8_leastOn_0 (j := 12) (n := 162) rfl) (hz_wg wX8_leastOn_0 (j := 13) (n := 0) rfl) (hz_wg wX8_leastOn_0 (j := 14) (n := 31) rfl) (by decide)
theorem dX8_leastOn_15 : decode cX8_leastOn 15 = .ok (.iload 4, 2) := dq_21 (hz_wg wX8_leastOn_0 (j := 15) (n := 21) rfl) (hz_wg wX8_leastOn_0 (j := 16) (n := 4) rfl)
theorem dX8_leastOn_17 : decode cX8_leastOn 17 = .ok (.iload_n 1, 1) := dq_27 (hz_wg wX8_leastOn_0 (j := 17) (n := 27) rfl)
theorem dX8_leastOn_18 : decode cX8_leastOn 18 = .ok (.invokestatic 31, 3) := dq_184 (hz_wg wX8_leastOn_0 (j := 18) (n := 184) rfl) (hz_wg wX8_leastOn_0 (j := 19) (n := 0) rfl) (hz_wg wX8_leastOn_0 (j := 20) (n := 31) rfl) rfl
theorem dX8_leastOn_21 : decode cX8_leastOn 21 = .ok (.ifCond .ne 16, 3) := dq_154 (hz_wg wX8_leastOn_0 (j := 21) (n := 154) rfl) (hz_wg wX8_leastOn_0 (j := 22) (n := 0) rfl) (hz_wg wX8_leastOn_0 (j := 23) (n := 16) rfl) (by decide)
theorem dX8_leastOn_24 : decode cX8_leastOn 24 = .ok (.iload_n 3, 1) := dq_29 (hz_wg wX8_leastOn_0 (j := 24) (n := 29) rfl)
theorem dX8_leastOn_25 : decode cX8_leastOn 25 = .ok (.aload_n 0, 1) := dq_42 (hz_wg wX8_leastOn_0 (j := 25) (n := 42) rfl)
theorem dX8_leastOn_26 : decode cX8_leastOn 26 = .ok (.iload_n 1, 1) := dq_27 (hz_wg wX8_leastOn_0 (j := 26) (n := 27) rfl)
theorem dX8_leastOn_27 : decode cX8_leastOn 27 = .ok (.iload_n 2, 1) := dq_28 (hz_wg wX8_leastOn_0 (j := 27) (n := 28) rfl)
theorem dX8_leastOn_28 : decode cX8_leastOn 28 = .ok (.iload 4, 2) := dq_21 (hz_wg wX8_leastOn_0 (j := 28) (n := 21) rfl) (hz_wg wX8_leastOn_0 (j := 29) (n := 4) rfl)
theorem dX8_leastOn_30 : decode cX8_leastOn 30 = .ok (.invokevirtual 51, 3) := dq_182 (hz_wg wX8_leastOn_0 (j := 30) (n := 182) rfl) (hz_wg wX8_leastOn_0 (j := 31) (n := 0) rfl) (hz_wg wX8_leastOn_0 (j := 32) (n := 51) rfl) rfl
theorem dX8_leastOn_33 : decode cX8_leastOn 33 = .ok (.invokestatic 55, 3) := dq_184 (hz_wg wX8_leastOn_0 (j := 33) (n := 184) rfl) (hz_wg wX8_leastOn_0 (j := 34) (n := 0) rfl) (hz_wg wX8_leastOn_0 (j := 35) (n := 55) rfl) rfl
theorem dX8_leastOn_36 : decode cX8_leastOn 36 = .ok (.istore_n 3, 1) := dq_62 (hz_wg wX8_leastOn_0 (j := 36) (n := 62) rfl)
theorem dX8_leastOn_37 : decode cX8_leastOn 37 = .ok (.iinc 4 1, 3) := dq_132 (hz_wg wX8_leastOn_0 (j := 37) (n := 132) rfl) (hz_wg wX8_leastOn_0 (j := 38) (n := 4) rfl) (hz_wg wX8_leastOn_0 (j := 39) (n := 1) rfl) (by decide)
theorem dX8_leastOn_40 : decode cX8_leastOn 40 = .ok (.goto (-34), 3) := dq_167 (hz_wg wX8_leastOn_0 (j := 40) (n := 167) rfl) (hz_wg wX8_leastOn_0 (j := 41) (n := 255) rfl) (hz_wg wX8_leastOn_0 (j := 42) (n := 222) rfl) (by decide)
theorem dX8_leastOn_43 : decode cX8_leastOn 43 = .ok (.iload_n 3, 1) := dq_29 (hz_wg wX8_leastOn_0 (j := 43) (n := 29) rfl)
theorem dX8_leastOn_44 : decode cX8_leastOn 44 = .ok (.ireturn, 1) := dq_172 (hz_wg wX8_leastOn_0 (j := 44) (n := 172) rfl)
def wLX8_firstOnWay_0 : List Nat := [3, 54, 4, 21, 4, 42, 180, 0, 24, 162, 0, 33, 21, 4, 27, 184, 0, 31, 154, 0, 18, 42, 27, 28, 21, 4, 182, 0, 51, 29, 160, 0, 6, 21, 4, 172, 132, 4, 1, 167, 255, 220, 3, 172]
theorem wX8_firstOnWay_0 : (cX8_firstOnWay.data.toList.map UInt8.toNat).drop 0 = wLX8_firstOnWay_0 ++ ([]) := by decide +kernel
theorem dX8_firstOnWay_0 : decode cX8_firstOnWay 0 = .ok (.iconst 0, 1) := dq_3 (hz_wg wX8_firstOnWay_0 (j := 0) (n := 3) rfl)
theorem dX8_firstOnWay_1 : decode cX8_firstOnWay 1 = .ok (.istore 4, 2) := dq_54 (hz_wg wX8_firstOnWay_0 (j := 1) (n := 54) rfl) (hz_wg wX8_firstOnWay_0 (j := 2) (n := 4) rfl)
theorem dX8_firstOnWay_3 : decode cX8_firstOnWay 3 = .ok (.iload 4, 2) := dq_21 (hz_wg wX8_firstOnWay_0 (j := 3) (n := 21) rfl) (hz_wg wX8_firstOnWay_0 (j := 4) (n := 4) rfl)
theorem dX8_firstOnWay_5 : decode cX8_firstOnWay 5 = .ok (.aload_n 0, 1) := dq_42 (hz_wg wX8_firstOnWay_0 (j := 5) (n := 42) rfl)
theorem dX8_firstOnWay_6 : decode cX8_firstOnWay 6 = .ok (.getfield 24, 3) := dq_180 (hz_wg wX8_firstOnWay_0 (j := 6) (n := 180) rfl) (hz_wg wX8_firstOnWay_0 (j := 7) (n := 0) rfl) (hz_wg wX8_firstOnWay_0 (j := 8) (n := 24) rfl) rfl
theorem dX8_firstOnWay_9 : decode cX8_firstOnWay 9 = .ok (.if_icmp .ge 33, 3) := dq_162 (hz_wg wX8_firstOnWay_0 (j := 9) (n := 162) rfl) (hz_wg wX8_firstOnWay_0 (j := 10) (n := 0) rfl) (hz_wg wX8_firstOnWay_0 (j := 11) (n := 33) rfl) (by decide)
theorem dX8_firstOnWay_12 : decode cX8_firstOnWay 12 = .ok (.iload 4, 2) := dq_21 (hz_wg wX8_firstOnWay_0 (j := 12) (n := 21) rfl) (hz_wg wX8_firstOnWay_0 (j := 13) (n := 4) rfl)
theorem dX8_firstOnWay_14 : decode cX8_firstOnWay 14 = .ok (.iload_n 1, 1) := dq_27 (hz_wg wX8_firstOnWay_0 (j := 14) (n := 27) rfl)
theorem dX8_firstOnWay_15 : decode cX8_firstOnWay 15 = .ok (.invokestatic 31, 3) := dq_184 (hz_wg wX8_firstOnWay_0 (j := 15) (n := 184) rfl) (hz_wg wX8_firstOnWay_0 (j := 16) (n := 0) rfl) (hz_wg wX8_firstOnWay_0 (j := 17) (n := 31) rfl) rfl
theorem dX8_firstOnWay_18 : decode cX8_firstOnWay 18 = .ok (.ifCond .ne 18, 3) := dq_154 (hz_wg wX8_firstOnWay_0 (j := 18) (n := 154) rfl) (hz_wg wX8_firstOnWay_0 (j := 19) (n := 0) rfl) (hz_wg wX8_firstOnWay_0 (j := 20) (n := 18) rfl) (by decide)
theorem dX8_firstOnWay_21 : decode cX8_firstOnWay 21 = .ok (.aload_n 0, 1) := dq_42 (hz_wg wX8_firstOnWay_0 (j := 21) (n := 42) rfl)
theorem dX8_firstOnWay_22 : decode cX8_firstOnWay 22 = .ok (.iload_n 1, 1) := dq_27 (hz_wg wX8_firstOnWay_0 (j := 22) (n := 27) rfl)
theorem dX8_firstOnWay_23 : decode cX8_firstOnWay 23 = .ok (.iload_n 2, 1) := dq_28 (hz_wg wX8_firstOnWay_0 (j := 23) (n := 28) rfl)
theorem dX8_firstOnWay_24 : decode cX8_firstOnWay 24 = .ok (.iload 4, 2) := dq_21 (hz_wg wX8_firstOnWay_0 (j := 24) (n := 21) rfl) (hz_wg wX8_firstOnWay_0 (j := 25) (n := 4) rfl)
theorem dX8_firstOnWay_26 : decode cX8_firstOnWay 26 = .ok (.invokevirtual 51, 3) := dq_182 (hz_wg wX8_firstOnWay_0 (j := 26) (n := 182) rfl) (hz_wg wX8_firstOnWay_0 (j := 27) (n := 0) rfl) (hz_wg wX8_firstOnWay_0 (j := 28) (n := 51) rfl) rfl
theorem dX8_firstOnWay_29 : decode cX8_firstOnWay 29 = .ok (.iload_n 3, 1) := dq_29 (hz_wg wX8_firstOnWay_0 (j := 29) (n := 29) rfl)
theorem dX8_firstOnWay_30 : decode cX8_firstOnWay 30 = .ok (.if_icmp .ne 6, 3) := dq_160 (hz_wg wX8_firstOnWay_0 (j := 30) (n := 160) rfl) (hz_wg wX8_firstOnWay_0 (j := 31) (n := 0) rfl) (hz_wg wX8_firstOnWay_0 (j := 32) (n := 6) rfl) (by decide)
theorem dX8_firstOnWay_33 : decode cX8_firstOnWay 33 = .ok (.iload 4, 2) := dq_21 (hz_wg wX8_firstOnWay_0 (j := 33) (n := 21) rfl) (hz_wg wX8_firstOnWay_0 (j := 34) (n := 4) rfl)
theorem dX8_firstOnWay_35 : decode cX8_firstOnWay 35 = .ok (.ireturn, 1) := dq_172 (hz_wg wX8_firstOnWay_0 (j := 35) (n := 172) rfl)
theorem dX8_firstOnWay_36 : decode cX8_firstOnWay 36 = .ok (.iinc 4 1, 3) := dq_132 (hz_wg wX8_firstOnWay_0 (j := 36) (n := 132) rfl) (hz_wg wX8_firstOnWay_0 (j := 37) (n := 4) rfl) (hz_wg wX8_firstOnWay_0 (j := 38) (n := 1) rfl) (by decide)
theorem dX8_firstOnWay_39 : decode cX8_firstOnWay 39 = .ok (.goto (-36), 3) := dq_167 (hz_wg wX8_firstOnWay_0 (j := 39) (n := 167) rfl) (hz_wg wX8_firstOnWay_0 (j := 40) (n := 255) rfl) (hz_wg wX8_firstOnWay_0 (j := 41) (n := 220) rfl) (by decide)
theorem dX8_firstOnWay_42 : decode cX8_firstOnWay 42 = .ok (.iconst 0, 1) := dq_3 (hz_wg wX8_firstOnWay_0 (j := 42) (n := 3) rfl)
theorem dX8_firstOnWay_43 : decode cX8_firstOnWay 43 = .ok (.ireturn, 1) := dq_172 (hz_wg wX8_firstOnWay_0 (j := 43) (n := 172) rfl)
def wLX8_retrace_0 : List Nat := [3, 61, 2, 62, 27, 54, 4, 3, 54, 5, 21, 5, 42, 180, 0, 24, 162, 0, 59, 42, 28, 29, 21, 4, 182, 0, 60, 54, 6, 42, 180, 0, 9, 21, 5, 42, 180, 0, 17, 21, 6, 50, 180, 0, 28, 79, 28, 4, 21, 6, 120, 128, 61, 21, 6, 62, 42, 180, 0, 21, 28, 16, 8, 104]
def wLX8_retrace_1 : List Nat := [29, 96, 46, 54, 4, 132, 5, 1, 167, 255, 194, 177]
theorem wX8_retrace_0 : (cX8_retrace.data.toList.map UInt8.toNat).drop 0 = wLX8_retrace_0 ++ (wLX8_retrace_1 ++ ([])) := by decide +kernel
theorem wX8_retrace_1 : (cX8_retrace.data.toList.map UInt8.toNat).drop 64 = wLX8_retrace_1 ++ ([]) := hz_wn wX8_retrace_0 rfl
theorem dX8_retrace_0 : decode cX8_retrace 0 = .ok (.iconst 0, 1) := dq_3 (hz_wg wX8_retrace_0 (j := 0) (n := 3) rfl)
theorem dX8_retrace_1 : decode cX8_retrace 1 = .ok (.istore_n 2, 1) := dq_61 (hz_wg wX8_retrace_0 (j := 1) (n := 61) rfl)
theorem dX8_retrace_2 : decode cX8_retrace 2 = .ok (.iconst (-1), 1) := dq_2 (hz_wg wX8_retrace_0 (j := 2) (n := 2) rfl)
theorem dX8_retrace_3 : decode cX8_retrace 3 = .ok (.istore_n 3, 1) := dq_62 (hz_wg wX8_retrace_0 (j := 3) (n := 62) rfl)
theorem dX8_retrace_4 : decode cX8_retrace 4 = .ok (.iload_n 1, 1) := dq_27 (hz_wg wX8_retrace_0 (j := 4) (n := 27) rfl)
theorem dX8_retrace_5 : decode cX8_retrace 5 = .ok (.istore 4, 2) := dq_54 (hz_wg wX8_retrace_0 (j := 5) (n := 54) rfl) (hz_wg wX8_retrace_0 (j := 6) (n := 4) rfl)
theorem dX8_retrace_7 : decode cX8_retrace 7 = .ok (.iconst 0, 1) := dq_3 (hz_wg wX8_retrace_0 (j := 7) (n := 3) rfl)
theorem dX8_retrace_8 : decode cX8_retrace 8 = .ok (.istore 5, 2) := dq_54 (hz_wg wX8_retrace_0 (j := 8) (n := 54) rfl) (hz_wg wX8_retrace_0 (j := 9) (n := 5) rfl)
theorem dX8_retrace_10 : decode cX8_retrace 10 = .ok (.iload 5, 2) := dq_21 (hz_wg wX8_retrace_0 (j := 10) (n := 21) rfl) (hz_wg wX8_retrace_0 (j := 11) (n := 5) rfl)
theorem dX8_retrace_12 : decode cX8_retrace 12 = .ok (.aload_n 0, 1) := dq_42 (hz_wg wX8_retrace_0 (j := 12) (n := 42) rfl)
theorem dX8_retrace_13 : decode cX8_retrace 13 = .ok (.getfield 24, 3) := dq_180 (hz_wg wX8_retrace_0 (j := 13) (n := 180) rfl) (hz_wg wX8_retrace_0 (j := 14) (n := 0) rfl) (hz_wg wX8_retrace_0 (j := 15) (n := 24) rfl) rfl
theorem dX8_retrace_16 : decode cX8_retrace 16 = .ok (.if_icmp .ge 59, 3) := dq_162 (hz_wg wX8_retrace_0 (j := 16) (n := 162) rfl) (hz_wg wX8_retrace_0 (j := 17) (n := 0) rfl) (hz_wg wX8_retrace_0 (j := 18) (n := 59) rfl) (by decide)
theorem dX8_retrace_19 : decode cX8_retrace 19 = .ok (.aload_n 0, 1) := dq_42 (hz_wg wX8_retrace_0 (j := 19) (n := 42) rfl)
theorem dX8_retrace_20 : decode cX8_retrace 20 = .ok (.iload_n 2, 1) := dq_28 (hz_wg wX8_retrace_0 (j := 20) (n := 28) rfl)
theorem dX8_retrace_21 : decode cX8_retrace 21 = .ok (.iload_n 3, 1) := dq_29 (hz_wg wX8_retrace_0 (j := 21) (n := 29) rfl)
theorem dX8_retrace_22 : decode cX8_retrace 22 = .ok (.iload 4, 2) := dq_21 (hz_wg wX8_retrace_0 (j := 22) (n := 21) rfl) (hz_wg wX8_retrace_0 (j := 23) (n := 4) rfl)
theorem dX8_retrace_24 : decode cX8_retrace 24 = .ok (.invokevirtual 60, 3) := dq_182 (hz_wg wX8_retrace_0 (j := 24) (n := 182) rfl) (hz_wg wX8_retrace_0 (j := 25) (n := 0) rfl) (hz_wg wX8_retrace_0 (j := 26) (n := 60) rfl) rfl
theorem dX8_retrace_27 : decode cX8_retrace 27 = .ok (.istore 6, 2) := dq_54 (hz_wg wX8_retrace_0 (j := 27) (n := 54) rfl) (hz_wg wX8_retrace_0 (j := 28) (n := 6) rfl)
theorem dX8_retrace_29 : decode cX8_retrace 29 = .ok (.aload_n 0, 1) := dq_42 (hz_wg wX8_retrace_0 (j := 29) (n := 42) rfl)
theorem dX8_retrace_30 : decode cX8_retrace 30 = .ok (.getfield 9, 3) := dq_180 (hz_wg wX8_retrace_0 (j := 30) (n := 180) rfl) (hz_wg wX8_retrace_0 (j := 31) (n := 0) rfl) (hz_wg wX8_retrace_0 (j := 32) (n := 9) rfl) rfl
theorem dX8_retrace_33 : decode cX8_retrace 33 = .ok (.iload 5, 2) := dq_21 (hz_wg wX8_retrace_0 (j := 33) (n := 21) rfl) (hz_wg wX8_retrace_0 (j := 34) (n := 5) rfl)
theorem dX8_retrace_35 : decode cX8_retrace 35 = .ok (.aload_n 0, 1) := dq_42 (hz_wg wX8_retrace_0 (j := 35) (n := 42) rfl)
theorem dX8_retrace_36 : decode cX8_retrace 36 = .ok (.getfield 17, 3) := dq_180 (hz_wg wX8_retrace_0 (j := 36) (n := 180) rfl) (hz_wg wX8_retrace_0 (j := 37) (n := 0) rfl) (hz_wg wX8_retrace_0 (j := 38) (n := 17) rfl) rfl
theorem dX8_retrace_39 : decode cX8_retrace 39 = .ok (.iload 6, 2) := dq_21 (hz_wg wX8_retrace_0 (j := 39) (n := 21) rfl) (hz_wg wX8_retrace_0 (j := 40) (n := 6) rfl)
theorem dX8_retrace_41 : decode cX8_retrace 41 = .ok (.aaload, 1) := dq_50 (hz_wg wX8_retrace_0 (j := 41) (n := 50) rfl)
theorem dX8_retrace_42 : decode cX8_retrace 42 = .ok (.getfield 28, 3) := dq_180 (hz_wg wX8_retrace_0 (j := 42) (n := 180) rfl) (hz_wg wX8_retrace_0 (j := 43) (n := 0) rfl) (hz_wg wX8_retrace_0 (j := 44) (n := 28) rfl) rfl
theorem dX8_retrace_45 : decode cX8_retrace 45 = .ok (.iastore, 1) := dq_79 (hz_wg wX8_retrace_0 (j := 45) (n := 79) rfl)
theorem dX8_retrace_46 : decode cX8_retrace 46 = .ok (.iload_n 2, 1) := dq_28 (hz_wg wX8_retrace_0 (j := 46) (n := 28) rfl)
theorem dX8_retrace_47 : decode cX8_retrace 47 = .ok (.iconst 1, 1) := dq_4 (hz_wg wX8_retrace_0 (j := 47) (n := 4) rfl)
theorem dX8_retrace_48 : decode cX8_retrace 48 = .ok (.iload 6, 2) := dq_21 (hz_wg wX8_retrace_0 (j := 48) (n := 21) rfl) (hz_wg wX8_retrace_0 (j := 49) (n := 6) rfl)
theorem dX8_retrace_50 : decode cX8_retrace 50 = .ok (.ishl, 1) := dq_120 (hz_wg wX8_retrace_0 (j := 50) (n := 120) rfl)
theorem dX8_retrace_51 : decode cX8_retrace 51 = .ok (.ior, 1) := dq_128 (hz_wg wX8_retrace_0 (j := 51) (n := 128) rfl)
theorem dX8_retrace_52 : decode cX8_retrace 52 = .ok (.istore_n 2, 1) := dq_61 (hz_wg wX8_retrace_0 (j := 52) (n := 61) rfl)
theorem dX8_retrace_53 : decode cX8_retrace 53 = .ok (.iload 6, 2) := dq_21 (hz_wg wX8_retrace_0 (j := 53) (n := 21) rfl) (hz_wg wX8_retrace_0 (j := 54) (n := 6) rfl)
theorem dX8_retrace_55 : decode cX8_retrace 55 = .ok (.istore_n 3, 1) := dq_62 (hz_wg wX8_retrace_0 (j := 55) (n := 62) rfl)
theorem dX8_retrace_56 : decode cX8_retrace 56 = .ok (.aload_n 0, 1) := dq_42 (hz_wg wX8_retrace_0 (j := 56) (n := 42) rfl)
theorem dX8_retrace_57 : decode cX8_retrace 57 = .ok (.getfield 21, 3) := dq_180 (hz_wg wX8_retrace_0 (j := 57) (n := 180) rfl) (hz_wg wX8_retrace_0 (j := 58) (n := 0) rfl) (hz_wg wX8_retrace_0 (j := 59) (n := 21) rfl) rfl
theorem dX8_retrace_60 : decode cX8_retrace 60 = .ok (.iload_n 2, 1) := dq_28 (hz_wg wX8_retrace_0 (j := 60) (n := 28) rfl)
theorem dX8_retrace_61 : decode cX8_retrace 61 = .ok (.bipush 8, 2) := dq_16 (hz_wg wX8_retrace_0 (j := 61) (n := 16) rfl) (hz_wg wX8_retrace_0 (j := 62) (n := 8) rfl) (by decide)
theorem dX8_retrace_63 : decode cX8_retrace 63 = .ok (.imul, 1) := dq_104 (hz_wg wX8_retrace_0 (j := 63) (n := 104) rfl)
theorem dX8_retrace_64 : decode cX8_retrace 64 = .ok (.iload_n 3, 1) := dq_29 (hz_wg wX8_retrace_1 (j := 0) (n := 29) rfl)
theorem dX8_retrace_65 : decode cX8_retrace 65 = .ok (.iadd, 1) := dq_96 (hz_wg wX8_retrace_1 (j := 1) (n := 96) rfl)
theorem dX8_retrace_66 : decode cX8_retrace 66 = .ok (.iaload, 1) := dq_46 (hz_wg wX8_retrace_1 (j := 2) (n := 46) rfl)
theorem dX8_retrace_67 : decode cX8_retrace 67 = .ok (.istore 4, 2) := dq_54 (hz_wg wX8_retrace_1 (j := 3) (n := 54) rfl) (hz_wg wX8_retrace_1 (j := 4) (n := 4) rfl)
theorem dX8_retrace_69 : decode cX8_retrace 69 = .ok (.iinc 5 1, 3) := dq_132 (hz_wg wX8_retrace_1 (j := 5) (n := 132) rfl) (hz_wg wX8_retrace_1 (j := 6) (n := 5) rfl) (hz_wg wX8_retrace_1 (j := 7) (n := 1) rfl) (by decide)
theorem dX8_retrace_72 : decode cX8_retrace 72 = .ok (.goto (-62), 3) := dq_167 (hz_wg wX8_retrace_1 (j := 8) (n := 167) rfl) (hz_wg wX8_retrace_1 (j := 9) (n := 255) rfl) (hz_wg wX8_retrace_1 (j := 10) (n := 194) rfl) (by decide)
theorem dX8_retrace_75 : decode cX8_retrace 75 = .ok (.return_, 1) := dq_177 (hz_wg wX8_retrace_1 (j := 11) (n := 177) rfl)
def wLX8_walkList_0 : List Nat := [4, 42, 180, 0, 24, 120, 4, 100, 60, 27, 61, 28, 158, 0, 63, 3, 62, 29, 42, 180, 0, 24, 162, 0, 47, 29, 28, 184, 0, 31, 153, 0, 33, 42, 180, 0, 21, 28, 16, 8, 104, 29, 96, 28, 27, 160, 0, 11, 42, 29, 182, 0, 35, 167, 0, 9, 42, 28, 29, 182, 0, 39, 79, 132]
def wLX8_walkList_1 : List Nat := [3, 1, 167, 255, 207, 132, 2, 255, 167, 255, 195, 42, 180, 0, 24, 154, 0, 7, 3, 167, 0, 9, 42, 3, 2, 182, 0, 39, 61, 42, 28, 182, 0, 43, 42, 42, 180, 0, 24, 181, 0, 47, 42, 3, 181, 0, 24, 28, 172]
theorem wX8_walkList_0 : (cX8_walkList.data.toList.map UInt8.toNat).drop 0 = wLX8_walkList_0 ++ (wLX8_walkList_1 ++ ([])) := by decide +kernel
theorem wX8_walkList_1 : (cX8_walkList.data.toList.map UInt8.toNat).drop 64 = wLX8_walkList_1 ++ ([]) := hz_wn wX8_walkList_0 rfl
theorem dX8_walkList_0 : decode cX8_walkList 0 = .ok (.iconst 1, 1) := dq_4 (hz_wg wX8_walkList_0 (j := 0) (n := 4) rfl)
theorem dX8_walkList_1 : decode cX8_walkList 1 = .ok (.aload_n 0, 1) := dq_42 (hz_wg wX8_walkList_0 (j := 1) (n := 42) rfl)
theorem dX8_walkList_2 : decode cX8_walkList 2 = .ok (.getfield 24, 3) := dq_180 (hz_wg wX8_walkList_0 (j := 2) (n := 180) rfl) (hz_wg wX8_walkList_0 (j := 3) (n := 0) rfl) (hz_wg wX8_walkList_0 (j := 4) (n := 24) rfl) rfl
theorem dX8_walkList_5 : decode cX8_walkList 5 = .ok (.ishl, 1) := dq_120 (hz_wg wX8_walkList_0 (j := 5) (n := 120) rfl)
theorem dX8_walkList_6 : decode cX8_walkList 6 = .ok (.iconst 1, 1) := dq_4 (hz_wg wX8_walkList_0 (j := 6) (n := 4) rfl)
theorem dX8_walkList_7 : decode cX8_walkList 7 = .ok (.isub, 1) := dq_100 (hz_wg wX8_walkList_0 (j := 7) (n := 100) rfl)
theorem dX8_walkList_8 : decode cX8_walkList 8 = .ok (.istore_n 1, 1) := dq_60 (hz_wg wX8_walkList_0 (j := 8) (n := 60) rfl)
theorem dX8_walkList_9 : decode cX8_walkList 9 = .ok (.iload_n 1, 1) := dq_27 (hz_wg wX8_walkList_0 (j := 9) (n := 27) rfl)
theorem dX8_walkList_10 : decode cX8_walkList 10 = .ok (.istore_n 2, 1) := dq_61 (hz_wg wX8_walkList_0 (j := 10) (n := 61) rfl)
theorem dX8_walkList_11 : decode cX8_walkList 11 = .ok (.iload_n 2, 1) := dq_28 (hz_wg wX8_walkList_0 (j := 11) (n := 28) rfl)
theorem dX8_walkList_12 : decode cX8_walkList 12 = .ok (.ifCond .le 63, 3) := dq_158 (hz_wg wX8_walkList_0 (j := 12) (n := 158) rfl) (hz_wg wX8_walkList_0 (j := 13) (n := 0) rfl) (hz_wg wX8_walkList_0 (j := 14) (n := 63) rfl) (by decide)
theorem dX8_walkList_15 : decode cX8_walkList 15 = .ok (.iconst 0, 1) := dq_3 (hz_wg wX8_walkList_0 (j := 15) (n := 3) rfl)
theorem dX8_walkList_16 : decode cX8_walkList 16 = .ok (.istore_n 3, 1) := dq_62 (hz_wg wX8_walkList_0 (j := 16) (n := 62) rfl)
theorem dX8_walkList_17 : decode cX8_walkList 17 = .ok (.iload_n 3, 1) := dq_29 (hz_wg wX8_walkList_0 (j := 17) (n := 29) rfl)
theorem dX8_walkList_18 : decode cX8_walkList 18 = .ok (.aload_n 0, 1) := dq_42 (hz_wg wX8_walkList_0 (j := 18) (n := 42) rfl)
theorem dX8_walkList_19 : decode cX8_walkList 19 = .ok (.getfield 24, 3) := dq_180 (hz_wg wX8_walkList_0 (j := 19) (n := 180) rfl) (hz_wg wX8_walkList_0 (j := 20) (n := 0) rfl) (hz_wg wX8_walkList_0 (j := 21) (n := 24) rfl) rfl
theorem dX8_walkList_22 : decode cX8_walkList 22 = .ok (.if_icmp .ge 47, 3) := dq_162 (hz_wg wX8_walkList_0 (j := 22) (n := 162) rfl) (hz_wg wX8_walkList_0 (j := 23) (n := 0) rfl) (hz_wg wX8_walkList_0 (j := 24) (n := 47) rfl) (by decide)
theorem dX8_walkList_25 : decode cX8_walkList 25 = .ok (.iload_n 3, 1) := dq_29 (hz_wg wX8_walkList_0 (j := 25) (n := 29) rfl)
theorem dX8_walkList_26 : decode cX8_walkList 26 = .ok (.iload_n 2, 1) := dq_28 (hz_wg wX8_walkList_0 (j := 26) (n := 28) rfl)
theorem dX8_walkList_27 : decode cX8_walkList 27 = .ok (.invokestatic 31, 3) := dq_184 (hz_wg wX8_walkList_0 (j := 27) (n := 184) rfl) (hz_wg wX8_walkList_0 (j := 28) (n := 0) rfl) (hz_wg wX8_walkList_0 (j := 29) (n := 31) rfl) rfl
theorem dX8_walkList_30 : decode cX8_walkList 30 = .ok (.ifCond .eq 33, 3) := dq_153 (hz_wg wX8_walkList_0 (j := 30) (n := 153) rfl) (hz_wg wX8_walkList_0 (j := 31) (n := 0) rfl) (hz_wg wX8_walkList_0 (j := 32) (n := 33) rfl) (by decide)
theorem dX8_walkList_33 : decode cX8_walkList 33 = .ok (.aload_n 0, 1) := dq_42 (hz_wg wX8_walkList_0 (j := 33) (n := 42) rfl)
theorem dX8_walkList_34 : decode cX8_walkList 34 = .ok (.getfield 21, 3) := dq_180 (hz_wg wX8_walkList_0 (j := 34) (n := 180) rfl) (hz_wg wX8_walkList_0 (j := 35) (n := 0) rfl) (hz_wg wX8_walkList_0 (j := 36) (n := 21) rfl) rfl
theorem dX8_walkList_37 : decode cX8_walkList 37 = .ok (.iload_n 2, 1) := dq_28 (hz_wg wX8_walkList_0 (j := 37) (n := 28) rfl)
theorem dX8_walkList_38 : decode cX8_walkList 38 = .ok (.bipush 8, 2) := dq_16 (hz_wg wX8_walkList_0 (j := 38) (n := 16) rfl) (hz_wg wX8_walkList_0 (j := 39) (n := 8) rfl) (by decide)
theorem dX8_walkList_40 : decode cX8_walkList 40 = .ok (.imul, 1) := dq_104 (hz_wg wX8_walkList_0 (j := 40) (n := 104) rfl)
theorem dX8_walkList_41 : decode cX8_walkList 41 = .ok (.iload_n 3, 1) := dq_29 (hz_wg wX8_walkList_0 (j := 41) (n := 29) rfl)
theorem dX8_walkList_42 : decode cX8_walkList 42 = .ok (.iadd, 1) := dq_96 (hz_wg wX8_walkList_0 (j := 42) (n := 96) rfl)
theorem dX8_walkList_43 : decode cX8_walkList 43 = .ok (.iload_n 2, 1) := dq_28 (hz_wg wX8_walkList_0 (j := 43) (n := 28) rfl)
theorem dX8_walkList_44 : decode cX8_walkList 44 = .ok (.iload_n 1, 1) := dq_27 (hz_wg wX8_walkList_0 (j := 44) (n := 27) rfl)
theorem dX8_walkList_45 : decode cX8_walkList 45 = .ok (.if_icmp .ne 11, 3) := dq_160 (hz_wg wX8_walkList_0 (j := 45) (n := 160) rfl) (hz_wg wX8_walkList_0 (j := 46) (n := 0) rfl) (hz_wg wX8_walkList_0 (j := 47) (n := 11) rfl) (by decide)
theorem dX8_walkList_48 : decode cX8_walkList 48 = .ok (.aload_n 0, 1) := dq_42 (hz_wg wX8_walkList_0 (j := 48) (n := 42) rfl)
theorem dX8_walkList_49 : decode cX8_walkList 49 = .ok (.iload_n 3, 1) := dq_29 (hz_wg wX8_walkList_0 (j := 49) (n := 29) rfl)
theorem dX8_walkList_50 : decode cX8_walkList 50 = .ok (.invokevirtual 35, 3) := dq_182 (hz_wg wX8_walkList_0 (j := 50) (n := 182) rfl) (hz_wg wX8_walkList_0 (j := 51) (n := 0) rfl) (hz_wg wX8_walkList_0 (j := 52) (n := 35) rfl) rfl
theorem dX8_walkList_53 : decode cX8_walkList 53 = .ok (.goto 9, 3) := dq_167 (hz_wg wX8_walkList_0 (j := 53) (n := 167) rfl) (hz_wg wX8_walkList_0 (j := 54) (n := 0) rfl) (hz_wg wX8_walkList_0 (j := 55) (n := 9) rfl) (by decide)
theorem dX8_walkList_56 : decode cX8_walkList 56 = .ok (.aload_n 0, 1) := dq_42 (hz_wg wX8_walkList_0 (j := 56) (n := 42) rfl)
theorem dX8_walkList_57 : decode cX8_walkList 57 = .ok (.iload_n 2, 1) := dq_28 (hz_wg wX8_walkList_0 (j := 57) (n := 28) rfl)
theorem dX8_walkList_58 : decode cX8_walkList 58 = .ok (.iload_n 3, 1) := dq_29 (hz_wg wX8_walkList_0 (j := 58) (n := 29) rfl)
theorem dX8_walkList_59 : decode cX8_walkList 59 = .ok (.invokevirtual 39, 3) := dq_182 (hz_wg wX8_walkList_0 (j := 59) (n := 182) rfl) (hz_wg wX8_walkList_0 (j := 60) (n := 0) rfl) (hz_wg wX8_walkList_0 (j := 61) (n := 39) rfl) rfl
theorem dX8_walkList_62 : decode cX8_walkList 62 = .ok (.iastore, 1) := dq_79 (hz_wg wX8_walkList_0 (j := 62) (n := 79) rfl)
theorem dX8_walkList_63 : decode cX8_walkList 63 = .ok (.iinc 3 1, 3) := dq_132 (hz_wg wX8_walkList_0 (j := 63) (n := 132) rfl) (hz_wg wX8_walkList_1 (j := 0) (n := 3) rfl) (hz_wg wX8_walkList_1 (j := 1) (n := 1) rfl) (by decide)
theorem dX8_walkList_66 : decode cX8_walkList 66 = .ok (.goto (-49), 3) := dq_167 (hz_wg wX8_walkList_1 (j := 2) (n := 167) rfl) (hz_wg wX8_walkList_1 (j := 3) (n := 255) rfl) (hz_wg wX8_walkList_1 (j := 4) (n := 207) rfl) (by decide)
theorem dX8_walkList_69 : decode cX8_walkList 69 = .ok (.iinc 2 (-1), 3) := dq_132 (hz_wg wX8_walkList_1 (j := 5) (n := 132) rfl) (hz_wg wX8_walkList_1 (j := 6) (n := 2) rfl) (hz_wg wX8_walkList_1 (j := 7) (n := 255) rfl) (by decide)
theorem dX8_walkList_72 : decode cX8_walkList 72 = .ok (.goto (-61), 3) := dq_167 (hz_wg wX8_walkList_1 (j := 8) (n := 167) rfl) (hz_wg wX8_walkList_1 (j := 9) (n := 255) rfl) (hz_wg wX8_walkList_1 (j := 10) (n := 195) rfl) (by decide)
theorem dX8_walkList_75 : decode cX8_walkList 75 = .ok (.aload_n 0, 1) := dq_42 (hz_wg wX8_walkList_1 (j := 11) (n := 42) rfl)
theorem dX8_walkList_76 : decode cX8_walkList 76 = .ok (.getfield 24, 3) := dq_180 (hz_wg wX8_walkList_1 (j := 12) (n := 180) rfl) (hz_wg wX8_walkList_1 (j := 13) (n := 0) rfl) (hz_wg wX8_walkList_1 (j := 14) (n := 24) rfl) rfl
theorem dX8_walkList_79 : decode cX8_walkList 79 = .ok (.ifCond .ne 7, 3) := dq_154 (hz_wg wX8_walkList_1 (j := 15) (n := 154) rfl) (hz_wg wX8_walkList_1 (j := 16) (n := 0) rfl) (hz_wg wX8_walkList_1 (j := 17) (n := 7) rfl) (by decide)
theorem dX8_walkList_82 : decode cX8_walkList 82 = .ok (.iconst 0, 1) := dq_3 (hz_wg wX8_walkList_1 (j := 18) (n := 3) rfl)
theorem dX8_walkList_83 : decode cX8_walkList 83 = .ok (.goto 9, 3) := dq_167 (hz_wg wX8_walkList_1 (j := 19) (n := 167) rfl) (hz_wg wX8_walkList_1 (j := 20) (n := 0) rfl) (hz_wg wX8_walkList_1 (j := 21) (n := 9) rfl) (by decide)
theorem dX8_walkList_86 : decode cX8_walkList 86 = .ok (.aload_n 0, 1) := dq_42 (hz_wg wX8_walkList_1 (j := 22) (n := 42) rfl)
theorem dX8_walkList_87 : decode cX8_walkList 87 = .ok (.iconst 0, 1) := dq_3 (hz_wg wX8_walkList_1 (j := 23) (n := 3) rfl)
theorem dX8_walkList_88 : decode cX8_walkList 88 = .ok (.iconst (-1), 1) := dq_2 (hz_wg wX8_walkList_1 (j := 24) (n := 2) rfl)
theorem dX8_walkList_89 : decode cX8_walkList 89 = .ok (.invokevirtual 39, 3) := dq_182 (hz_wg wX8_walkList_1 (j := 25) (n := 182) rfl) (hz_wg wX8_walkList_1 (j := 26) (n := 0) rfl) (hz_wg wX8_walkList_1 (j := 27) (n := 39) rfl) rfl
theorem dX8_walkList_92 : decode cX8_walkList 92 = .ok (.istore_n 2, 1) := dq_61 (hz_wg wX8_walkList_1 (j := 28) (n := 61) rfl)
theorem dX8_walkList_93 : decode cX8_walkList 93 = .ok (.aload_n 0, 1) := dq_42 (hz_wg wX8_walkList_1 (j := 29) (n := 42) rfl)
theorem dX8_walkList_94 : decode cX8_walkList 94 = .ok (.iload_n 2, 1) := dq_28 (hz_wg wX8_walkList_1 (j := 30) (n := 28) rfl)
theorem dX8_walkList_95 : decode cX8_walkList 95 = .ok (.invokevirtual 43, 3) := dq_182 (hz_wg wX8_walkList_1 (j := 31) (n := 182) rfl) (hz_wg wX8_walkList_1 (j := 32) (n := 0) rfl) (hz_wg wX8_walkList_1 (j := 33) (n := 43) rfl) rfl
theorem dX8_walkList_98 : decode cX8_walkList 98 = .ok (.aload_n 0, 1) := dq_42 (hz_wg wX8_walkList_1 (j := 34) (n := 42) rfl)
theorem dX8_walkList_99 : decode cX8_walkList 99 = .ok (.aload_n 0, 1) := dq_42 (hz_wg wX8_walkList_1 (j := 35) (n := 42) rfl)
theorem dX8_walkList_100 : decode cX8_walkList 100 = .ok (.getfield 24, 3) := dq_180 (hz_wg wX8_walkList_1 (j := 36) (n := 180) rfl) (hz_wg wX8_walkList_1 (j := 37) (n := 0) rfl) (hz_wg wX8_walkList_1 (j := 38) (n := 24) rfl) rfl
theorem dX8_walkList_103 : decode cX8_walkList 103 = .ok (.putfield 47, 3) := dq_181 (hz_wg wX8_walkList_1 (j := 39) (n := 181) rfl) (hz_wg wX8_walkList_1 (j := 40) (n := 0) rfl) (hz_wg wX8_walkList_1 (j := 41) (n := 47) rfl) rfl
theorem dX8_walkList_106 : decode cX8_walkList 106 = .ok (.aload_n 0, 1) := dq_42 (hz_wg wX8_walkList_1 (j := 42) (n := 42) rfl)
theorem dX8_walkList_107 : decode cX8_walkList 107 = .ok (.iconst 0, 1) := dq_3 (hz_wg wX8_walkList_1 (j := 43) (n := 3) rfl)
theorem dX8_walkList_108 : decode cX8_walkList 108 = .ok (.putfield 24, 3) := dq_181 (hz_wg wX8_walkList_1 (j := 44) (n := 181) rfl) (hz_wg wX8_walkList_1 (j := 45) (n := 0) rfl) (hz_wg wX8_walkList_1 (j := 46) (n := 24) rfl) rfl
theorem dX8_walkList_111 : decode cX8_walkList 111 = .ok (.iload_n 2, 1) := dq_28 (hz_wg wX8_walkList_1 (j := 47) (n := 28) rfl)
theorem dX8_walkList_112 : decode cX8_walkList 112 = .ok (.ireturn, 1) := dq_172 (hz_wg wX8_walkList_1 (j := 48) (n := 172) rfl)