def wLX1_isLine_0 : List Nat := [42, 180, 0, 9, 27, 46, 28, 160, 0, 28, 42, 180, 0, 15, 27, 46, 29, 160, 0, 18, 42, 180, 0, 18, 27, 46, 21, 4, 163, 0, 7, 4, 167, 0, 4, 3, 172]
theorem wX1_isLine_0 : (cX1_isLine.data.toList.map UInt8.toNat).drop 0 = wLX1_isLine_0 ++ ([]) := by decide +kernel
theorem dX1_isLine_0 : decode cX1_isLine 0 = .ok (.aload_n 0, 1) := dq_42 (hz_wg wX1_isLine_0 (j := 0) (n := 42) rfl)
theorem dX1_isLine_1 : decode cX1_isLine 1 = .ok (.getfield 9, 3) := dq_180 (hz_wg wX1_isLine_0 (j := 1) (n := 180) rfl) (hz_wg wX1_isLine_0 (j := 2) (n := 0) rfl) (hz_wg wX1_isLine_0 (j := 3) (n := 9) rfl) rfl
theorem dX1_isLine_4 : decode cX1_isLine 4 = .ok (.iload_n 1, 1) := dq_27 (hz_wg wX1_isLine_0 (j := 4) (n := 27) rfl)
theorem dX1_isLine_5 : decode cX1_isLine 5 = .ok (.iaload, 1) := dq_46 (hz_wg wX1_isLine_0 (j := 5) (n := 46) rfl)
theorem dX1_isLine_6 : decode cX1_isLine 6 = .ok (.iload_n 2, 1) := dq_28 (hz_wg wX1_isLine_0 (j := 6) (n := 28) rfl)
theorem dX1_isLine_7 : decode cX1_isLine 7 = .ok (.if_icmp .ne 28, 3) := dq_160 (hz_wg wX1_isLine_0 (j := 7) (n := 160) rfl) (hz_wg wX1_isLine_0 (j := 8) (n := 0) rfl) (hz_wg wX1_isLine_0 (j := 9) (n := 28) rfl) (by decide)
theorem dX1_isLine_10 : decode cX1_isLine 10 = .ok (.aload_n 0, 1) := dq_42 (hz_wg wX1_isLine_0 (j := 10) (n := 42) rfl)
theorem dX1_isLine_11 : decode cX1_isLine 11 = .ok (.getfield 15, 3) := dq_180 (hz_wg wX1_isLine_0 (j := 11) (n := 180) rfl) (hz_wg wX1_isLine_0 (j := 12) (n := 0) rfl) (hz_wg wX1_isLine_0 (j := 13) (n := 15) rfl) rfl
theorem dX1_isLine_14 : decode cX1_isLine 14 = .ok (.iload_n 1, 1) := dq_27 (hz_wg wX1_isLine_0 (j := 14) (n := 27) rfl)
theorem dX1_isLine_15 : decode cX1_isLine 15 = .ok (.iaload, 1) := dq_46 (hz_wg wX1_isLine_0 (j := 15) (n := 46) rfl)
theorem dX1_isLine_16 : decode cX1_isLine 16 = .ok (.iload_n 3, 1) := dq_29 (hz_wg wX1_isLine_0 (j := 16) (n := 29) rfl)
theorem dX1_isLine_17 : decode cX1_isLine 17 = .ok (.if_icmp .ne 18, 3) := dq_160 (hz_wg wX1_isLine_0 (j := 17) (n := 160) rfl) (hz_wg wX1_isLine_0 (j := 18) (n := 0) rfl) (hz_wg wX1_isLine_0 (j := 19) (n := 18) rfl) (by decide)
theorem dX1_isLine_20 : decode cX1_isLine 20 = .ok (.aload_n 0, 1) := dq_42 (hz_wg wX1_isLine_0 (j := 20) (n := 42) rfl)
theorem dX1_isLine_21 : decode cX1_isLine 21 = .ok (.getfield 18, 3) := dq_180 (hz_wg wX1_isLine_0 (j := 21) (n := 180) rfl) (hz_wg wX1_isLine_0 (j := 22) (n := 0) rfl) (hz_wg wX1_isLine_0 (j := 23) (n := 18) rfl) rfl
theorem dX1_isLine_24 : decode cX1_isLine 24 = .ok (.iload_n 1, 1) := dq_27 (hz_wg wX1_isLine_0 (j := 24) (n := 27) rfl)
theorem dX1_isLine_25 : decode cX1_isLine 25 = .ok (.iaload, 1) := dq_46 (hz_wg wX1_isLine_0 (j := 25) (n := 46) rfl)
theorem dX1_isLine_26 : decode cX1_isLine 26 = .ok (.iload 4, 2) := dq_21 (hz_wg wX1_isLine_0 (j := 26) (n := 21) rfl) (hz_wg wX1_isLine_0 (j := 27) (n := 4) rfl)
theorem dX1_isLine_28 : decode cX1_isLine 28 = .ok (.if_icmp .gt 7, 3) := dq_163 (hz_wg wX1_isLine_0 (j := 28) (n := 163) rfl) (hz_wg wX1_isLine_0 (j := 29) (n := 0) rfl) (hz_wg wX1_isLine_0 (j := 30) (n := 7) rfl) (by decide)
theorem dX1_isLine_31 : decode cX1_isLine 31 = .ok (.iconst 1, 1) := dq_4 (hz_wg wX1_isLine_0 (j := 31) (n := 4) rfl)
theorem dX1_isLine_32 : decode cX1_isLine 32 = .ok (.goto 4, 3) := dq_167 (hz_wg wX1_isLine_0 (j := 32) (n := 167) rfl) (hz_wg wX1_isLine_0 (j := 33) (n := 0) rfl) (hz_wg wX1_isLine_0 (j := 34) (n := 4) rfl) (by decide)
theorem dX1_isLine_35 : decode cX1_isLine 35 = .ok (.iconst 0, 1) := dq_3 (hz_wg wX1_isLine_0 (j := 35) (n := 3) rfl)
theorem dX1_isLine_36 : decode cX1_isLine 36 = .ok (.ireturn, 1) := dq_172 (hz_wg wX1_isLine_0 (j := 36) (n := 172) rfl)
def wLX1_sumWith_0 : List Nat := [3, 54, 4, 3, 54, 5, 21, 5, 42, 180, 0, 34, 162, 0, 65, 42, 21, 5, 27, 28, 29, 182, 0, 38, 153, 0, 47, 21, 4, 42, 180, 0, 21, 21, 5, 46, 153, 0, 14, 42, 180, 0, 21, 21, 5, 46, 6, 160, 0, 13, 42, 180, 0, 24, 21, 5, 46, 167, 0, 11, 42, 180, 0, 24]
def wLX1_sumWith_1 : List Nat := [21, 5, 46, 116, 96, 54, 4, 132, 5, 1, 167, 255, 188, 21, 4, 172]
theorem wX1_sumWith_0 : (cX1_sumWith.data.toList.map UInt8.toNat).drop 0 = wLX1_sumWith_0 ++ (wLX1_sumWith_1 ++ ([])) := by decide +kernel
theorem wX1_sumWith_1 : (cX1_sumWith.data.toList.map UInt8.toNat).drop 64 = wLX1_sumWith_1 ++ ([]) := hz_wn wX1_sumWith_0 rfl
theorem dX1_sumWith_0 : decode cX1_sumWith 0 = .ok (.iconst 0, 1) := dq_3 (hz_wg wX1_sumWith_0 (j := 0) (n := 3) rfl)
theorem dX1_sumWith_1 : decode cX1_sumWith 1 = .ok (.istore 4, 2) := dq_54 (hz_wg wX1_sumWith_0 (j := 1) (n := 54) rfl) (hz_wg wX1_sumWith_0 (j := 2) (n := 4) rfl)
theorem dX1_sumWith_3 : decode cX1_sumWith 3 = .ok (.iconst 0, 1) := dq_3 (hz_wg wX1_sumWith_0 (j := 3) (n := 3) rfl)
theorem dX1_sumWith_4 : decode cX1_sumWith 4 = .ok (.istore 5, 2) := dq_54 (hz_wg wX1_sumWith_0 (j := 4) (n := 54) rfl) (hz_wg wX1_sumWith_0 (j := 5) (n := 5) rfl)
theorem dX1_sumWith_6 : decode cX1_sumWith 6 = .ok (.iload 5, 2) := dq_21 (hz_wg wX1_sumWith_0 (j := 6) (n := 21) rfl) (hz_wg wX1_sumWith_0 (j := 7) (n := 5) rfl)
theorem dX1_sumWith_8 : decode cX1_sumWith 8 = .ok (.aload_n 0, 1) := dq_42 (hz_wg wX1_sumWith_0 (j := 8) (n := 42) rfl)
theorem dX1_sumWith_9 : decode cX1_sumWith 9 = .ok (.getfield 34, 3) := dq_180 (hz_wg wX1_sumWith_0 (j := 9) (n := 180) rfl) (hz_wg wX1_sumWith_0 (j := 10) (n := 0) rfl) (hz_wg wX1_sumWith_0 (j := 11) (n := 34) rfl) rfl
theorem dX1_sumWith_12 : decode cX1_sumWith 12 = .ok (.if_icmp .ge 65, 3) := dq_162 (hz_wg wX1_sumWith_0 (j := 12) (n := 162) rfl) (hz_wg wX1_sumWith_0 (j := 13) (n := 0) rfl) (hz_wg wX1_sumWith_0 (j := 14) (n := 65) rfl) (by decide)
theorem dX1_sumWith_15 : decode cX1_sumWith 15 = .ok (.aload_n 0, 1) := dq_42 (hz_wg wX1_sumWith_0 (j := 15) (n := 42) rfl)
theorem dX1_sumWith_16 : decode cX1_sumWith 16 = .ok (.iload 5, 2) := dq_21 (hz_wg wX1_sumWith_0 (j := 16) (n := 21) rfl) (hz_wg wX1_sumWith_0 (j := 17) (n := 5) rfl)
theorem dX1_sumWith_18 : decode cX1_sumWith 18 = .ok (.iload_n 1, 1) := dq_27 (hz_wg wX1_sumWith_0 (j := 18) (n := 27) rfl)
theorem dX1_sumWith_19 : decode cX1_sumWith 19 = .ok (.iload_n 2, 1) := dq_28 (hz_wg wX1_sumWith_0 (j := 19) (n := 28) rfl)
theorem dX1_sumWith_20 : decode cX1_sumWith 20 = .ok (.iload_n 3, 1) := dq_29 (hz_wg wX1_sumWith_0 (j := 20) (n := 29) rfl)
theorem dX1_sumWith_21 : decode cX1_sumWith 21 = .ok (.invokevirtual 38, 3) := dq_182 (hz_wg wX1_sumWith_0 (j := 21) (n := 182) rfl) (hz_wg wX1_sumWith_0 (j := 22) (n := 0) rfl) (hz_wg wX1_sumWith_0 (j := 23) (n := 38) rfl) rfl
theorem dX1_sumWith_24 : decode cX1_sumWith 24 = .ok (.ifCond .eq 47, 3) := dq_153 (hz_wg wX1_sumWith_0 (j := 24) (n := 153) rfl) (hz_wg wX1_sumWith_0 (j := 25) (n := 0) rfl) (hz_wg wX1_sumWith_0 (j := 26) (n := 47) rfl) (by decide)
theorem dX1_sumWith_27 : decode cX1_sumWith 27 = .ok (.iload 4, 2) := dq_21 (hz_wg wX1_sumWith_0 (j := 27) (n := 21) rfl) (hz_wg wX1_sumWith_0 (j := 28) (n := 4) rfl)
theorem dX1_sumWith_29 : decode cX1_sumWith 29 = .ok (.aload_n 0, 1) := dq_42 (hz_wg wX1_sumWith_0 (j := 29) (n := 42) rfl)
theorem dX1_sumWith_30 : decode cX1_sumWith 30 = .ok (.getfield 21, 3) := dq_180 (hz_wg wX1_sumWith_0 (j := 30) (n := 180) rfl) (hz_wg wX1_sumWith_0 (j := 31) (n := 0) rfl) (hz_wg wX1_sumWith_0 (j := 32) (n := 21) rfl) rfl
theorem dX1_sumWith_33 : decode cX1_sumWith 33 = .ok (.iload 5, 2) := dq_21 (hz_wg wX1_sumWith_0 (j := 33) (n := 21) rfl) (hz_wg wX1_sumWith_0 (j := 34) (n := 5) rfl)
theorem dX1_sumWith_35 : decode cX1_sumWith 35 = .ok (.iaload, 1) := dq_46 (hz_wg wX1_sumWith_0 (j := 35) (n := 46) rfl)
theorem dX1_sumWith_36 : decode cX1_sumWith 36 = .ok (.ifCond .eq 14, 3) := dq_153 (hz_wg wX1_sumWith_0 (j := 36) (n := 153) rfl) (hz_wg wX1_sumWith_0 (j := 37) (n := 0) rfl) (hz_wg wX1_sumWith_0 (j := 38) (n := 14) rfl) (by decide)
theorem dX1_sumWith_39 : decode cX1_sumWith 39 = .ok (.aload_n 0, 1) := dq_42 (hz_wg wX1_sumWith_0 (j := 39) (n := 42) rfl)
theorem dX1_sumWith_40 : decode cX1_sumWith 40 = .ok (.getfield 21, 3) := dq_180 (hz_wg wX1_sumWith_0 (j := 40) (n := 180) rfl) (hz_wg wX1_sumWith_0 (j := 41) (n := 0) rfl) (hz_wg wX1_sumWith_0 (j := 42) (n := 21) rfl) rfl
theorem dX1_sumWith_43 : decode cX1_sumWith 43 = .ok (.iload 5, 2) := dq_21 (hz_wg wX1_sumWith_0 (j := 43) (n := 21) rfl) (hz_wg wX1_sumWith_0 (j := 44) (n := 5) rfl)
theorem dX1_sumWith_45 : decode cX1_sumWith 45 = .ok (.iaload, 1) := dq_46 (hz_wg wX1_sumWith_0 (j := 45) (n := 46) rfl)
theorem dX1_sumWith_46 : decode cX1_sumWith 46 = .ok (.iconst 3, 1) := dq_6 (hz_wg wX1_sumWith_0 (j := 46) (n := 6) rfl)
theorem dX1_sumWith_47 : decode cX1_sumWith 47 = .ok (.if_icmp .ne 13, 3) := dq_160 (hz_wg wX1_sumWith_0 (j := 47) (n := 160) rfl) (hz_wg wX1_sumWith_0 (j := 48) (n := 0) rfl) (hz_wg wX1_sumWith_0 (j := 49) (n := 13) rfl) (by decide)
theorem dX1_sumWith_50 : decode cX1_sumWith 50 = .ok (.aload_n 0, 1) := dq_42 (hz_wg wX1_sumWith_0 (j := 50) (n := 42) rfl)
theorem dX1_sumWith_51 : decode cX1_sumWith 51 = .ok (.getfield 24, 3) := dq_180 (hz_wg wX1_sumWith_0 (j := 51) (n := 180) rfl) (hz_wg wX1_sumWith_0 (j := 52) (n := 0) rfl) (hz_wg wX1_sumWith_0 (j := 53) (n := 24) rfl) rfl
theorem dX1_sumWith_54 : decode cX1_sumWith 54 = .ok (.iload 5, 2) := dq_21 (hz_wg wX1_sumWith_0 (j := 54) (n := 21) rfl) (hz_wg wX1_sumWith_0 (j := 55) (n := 5) rfl)
theorem dX1_sumWith_56 : decode cX1_sumWith 56 = .ok (.iaload, 1) := dq_46 (hz_wg wX1_sumWith_0 (j := 56) (n := 46) rfl)
theorem dX1_sumWith_57 : decode cX1_sumWith 57 = .ok (.goto 11, 3) := dq_167 (hz_wg wX1_sumWith_0 (j := 57) (n := 167) rfl) (hz_wg wX1_sumWith_0 (j := 58) (n := 0) rfl) (hz_wg wX1_sumWith_0 (j := 59) (n := 11) rfl) (by decide)
theorem dX1_sumWith_60 : decode cX1_sumWith 60 = .ok (.aload_n 0, 1) := dq_42 (hz_wg wX1_sumWith_0 (j := 60) (n := 42) rfl)
theorem dX1_sumWith_61 : decode cX1_sumWith 61 = .ok (.getfield 24, 3) := dq_180 (hz_wg wX1_sumWith_0 (j := 61) (n := 180) rfl) (hz_wg wX1_sumWith_0 (j := 62) (n := 0) rfl) (hz_wg wX1_sumWith_0 (j := 63) (n := 24) rfl) rfl
theorem dX1_sumWith_64 : decode cX1_sumWith 64 = .ok (.iload 5, 2) := dq_21 (hz_wg wX1_sumWith_1 (j := 0) (n := 21) rfl) (hz_wg wX1_sumWith_1 (j := 1) (n := 5) rfl)
theorem dX1_sumWith_66 : decode cX1_sumWith 66 = .ok (.iaload, 1) := dq_46 (hz_wg wX1_sumWith_1 (j := 2) (n := 46) rfl)
theorem dX1_sumWith_67 : decode cX1_sumWith 67 = .ok (.ineg, 1) := dq_116 (hz_wg wX1_sumWith_1 (j := 3) (n := 116) rfl)
theorem dX1_sumWith_68 : decode cX1_sumWith 68 = .ok (.iadd, 1) := dq_96 (hz_wg wX1_sumWith_1 (j := 4) (n := 96) rfl)
theorem dX1_sumWith_69 : decode cX1_sumWith 69 = .ok (.istore 4, 2) := dq_54 (hz_wg wX1_sumWith_1 (j := 5) (n := 54) rfl) (hz_wg wX1_sumWith_1 (j := 6) (n := 4) rfl)
theorem dX1_sumWith_71 : decode cX1_sumWith 71 = .ok (.iinc 5 1, 3) := dq_132 (hz_wg wX1_sumWith_1 (j := 7) (n := 132) rfl) (hz_wg wX1_sumWith_1 (j := 8) (n := 5) rfl) (hz_wg wX1_sumWith_1 (j := 9) (n := 1) rfl) (by decide)
theorem dX1_sumWith_74 : decode cX1_sumWith 74 = .ok (.goto (-68), 3) := dq_167 (hz_wg wX1_sumWith_1 (j := 10) (n := 167) rfl) (hz_wg wX1_sumWith_1 (j := 11) (n := 255) rfl) (hz_wg wX1_sumWith_1 (j := 12) (n := 188) rfl) (by decide)
theorem dX1_sumWith_77 : decode cX1_sumWith 77 = .ok (.iload 4, 2) := dq_21 (hz_wg wX1_sumWith_1 (j := 13) (n := 21) rfl) (hz_wg wX1_sumWith_1 (j := 14) (n := 4) rfl)
theorem dX1_sumWith_79 : decode cX1_sumWith 79 = .ok (.ireturn, 1) := dq_172 (hz_wg wX1_sumWith_1 (j := 15) (n := 172) rfl)
def wLX1_areTwins_0 : List Nat := [42, 180, 0, 21, 27, 46, 4, 130, 42, 180, 0, 21, 28, 46, 160, 0, 42, 42, 180, 0, 24, 27, 46, 42, 180, 0, 24, 28, 46, 160, 0, 27, 42, 180, 0, 18, 27, 46, 42, 180, 0, 18, 28, 46, 100, 184, 0, 49, 6, 163, 0, 7, 4, 167, 0, 4, 3, 172]
theorem wX1_areTwins_0 : (cX1_areTwins.data.toList.map UInt8.toNat).drop 0 = wLX1_areTwins_0 ++ ([]) := by decide +kernel
theorem dX1_areTwins_0 : decode cX1_areTwins 0 = .ok (.aload_n 0, 1) := dq_42 (hz_wg wX1_areTwins_0 (j := 0) (n := 42) rfl)
theorem dX1_areTwins_1 : decode cX1_areTwins 1 = .ok (.getfield 21, 3) := dq_180 (hz_wg wX1_areTwins_0 (j := 1) (n := 180) rfl) (hz_wg wX1_areTwins_0 (j := 2) (n := 0) rfl) (hz_wg wX1_areTwins_0 (j := 3) (n := 21) rfl) rfl
theorem dX1_areTwins_4 : decode cX1_areTwins 4 = .ok (.iload_n 1, 1) := dq_27 (hz_wg wX1_areTwins_0 (j := 4) (n := 27) rfl)
theorem dX1_areTwins_5 : decode cX1_areTwins 5 = .ok (.iaload, 1) := dq_46 (hz_wg wX1_areTwins_0 (j := 5) (n := 46) rfl)
theorem dX1_areTwins_6 : decode cX1_areTwins 6 = .ok (.iconst 1, 1) := dq_4 (hz_wg wX1_areTwins_0 (j := 6) (n := 4) rfl)
theorem dX1_areTwins_7 : decode cX1_areTwins 7 = .ok (.ixor, 1) := dq_130 (hz_wg wX1_areTwins_0 (j := 7) (n := 130) rfl)
theorem dX1_areTwins_8 : decode cX1_areTwins 8 = .ok (.aload_n 0, 1) := dq_42 (hz_wg wX1_areTwins_0 (j := 8) (n := 42) rfl)
theorem dX1_areTwins_9 : decode cX1_areTwins 9 = .ok (.getfield 21, 3) := dq_180 (hz_wg wX1_areTwins_0 (j := 9) (n := 180) rfl) (hz_wg wX1_areTwins_0 (j := 10) (n := 0) rfl) (hz_wg wX1_areTwins_0 (j := 11) (n := 21) rfl) rfl
theorem dX1_areTwins_12 : decode cX1_areTwins 12 = .ok (.iload_n 2, 1) := dq_28 (hz_wg wX1_areTwins_0 (j := 12) (n := 28) rfl)
theorem dX1_areTwins_13 : decode cX1_areTwins 13 = .ok (.iaload, 1) := dq_46 (hz_wg wX1_areTwins_0 (j := 13) (n := 46) rfl)
theorem dX1_areTwins_14 : decode cX1_areTwins 14 = .ok (.if_icmp .ne 42, 3) := dq_160 (hz_wg wX1_areTwins_0 (j := 14) (n := 160) rfl) (hz_wg wX1_areTwins_0 (j := 15) (n := 0) rfl) (hz_wg wX1_areTwins_0 (j := 16) (n := 42) rfl) (by decide)
theorem dX1_areTwins_17 : decode cX1_areTwins 17 = .ok (.aload_n 0, 1) := dq_42 (hz_wg wX1_areTwins_0 (j := 17) (n := 42) rfl)
theorem dX1_areTwins_18 : decode cX1_areTwins 18 = .ok (.getfield 24, 3) := dq_180 (hz_wg wX1_areTwins_0 (j := 18) (n := 180) rfl) (hz_wg wX1_areTwins_0 (j := 19) (n := 0) rfl) (hz_wg wX1_areTwins_0 (j := 20) (n := 24) rfl) rfl
theorem dX1_areTwins_21 : decode cX1_areTwins 21 = .ok (.iload_n 1, 1) := dq_27 (hz_wg wX1_areTwins_0 (j := 21) (n := 27) rfl)
theorem dX1_areTwins_22 : decode cX1_areTwins 22 = .ok (.iaload, 1) := dq_46 (hz_wg wX1_areTwins_0 (j := 22) (n := 46) rfl)
theorem dX1_areTwins_23 : decode cX1_areTwins 23 = .ok (.aload_n 0, 1) := dq_42 (hz_wg wX1_areTwins_0 (j := 23) (n := 42) rfl)
theorem dX1_areTwins_24 : decode cX1_areTwins 24 = .ok (.getfield 24, 3) := dq_180 (hz_wg wX1_areTwins_0 (j := 24) (n := 180) rfl) (hz_wg wX1_areTwins_0 (j := 25) (n := 0) rfl) (hz_wg wX1_areTwins_0 (j := 26) (n := 24) rfl) rfl
theorem dX1_areTwins_27 : decode cX1_areTwins 27 = .ok (.iload_n 2, 1) := dq_28 (hz_wg wX1_areTwins_0 (j := 27) (n := 28) rfl)
theorem dX1_areTwins_28 : decode cX1_areTwins 28 = .ok (.iaload, 1) := dq_46 (hz_wg wX1_areTwins_0 (j := 28) (n := 46) rfl)
theorem dX1_areTwins_29 : decode cX1_areTwins 29 = .ok (.if_icmp .ne 27, 3) := dq_160 (hz_wg wX1_areTwins_0 (j := 29) (n := 160) rfl) (hz_wg wX1_areTwins_0 (j := 30) (n := 0) rfl) (hz_wg wX1_areTwins_0 (j := 31) (n := 27) rfl) (by decide)
theorem dX1_areTwins_32 : decode cX1_areTwins 32 = .ok (.aload_n 0, 1) := dq_42 (hz_wg wX1_areTwins_0 (j := 32) (n := 42) rfl)
theorem dX1_areTwins_33 : decode cX1_areTwins 33 = .ok (.getfield 18, 3) := dq_180 (hz_wg wX1_areTwins_0 (j := 33) (n := 180) rfl) (hz_wg wX1_areTwins_0 (j := 34) (n := 0) rfl) (hz_wg wX1_areTwins_0 (j := 35) (n := 18) rfl) rfl
theorem dX1_areTwins_36 : decode cX1_areTwins 36 = .ok (.iload_n 1, 1) := dq_27 (hz_wg wX1_areTwins_0 (j := 36) (n := 27) rfl)
theorem dX1_areTwins_37 : decode cX1_areTwins 37 = .ok (.iaload, 1) := dq_46 (hz_wg wX1_areTwins_0 (j := 37) (n := 46) rfl)
theorem dX1_areTwins_38 : decode cX1_areTwins 38 = .ok (.aload_n 0, 1) := dq_42 (hz_wg wX1_areTwins_0 (j := 38) (n := 42) rfl)
theorem dX1_areTwins_39 : decode cX1_areTwins 39 = .ok (.getfield 18, 3) := dq_180 (hz_wg wX1_areTwins_0 (j := 39) (n := 180) rfl) (hz_wg wX1_areTwins_0 (j := 40) (n := 0) rfl) (hz_wg wX1_areTwins_0 (j := 41) (n := 18) rfl) rfl
theorem dX1_areTwins_42 : decode cX1_areTwins 42 = .ok (.iload_n 2, 1) := dq_28 (hz_wg wX1_areTwins_0 (j := 42) (n := 28) rfl)
theorem dX1_areTwins_43 : decode cX1_areTwins 43 = .ok (.iaload, 1) := dq_46 (hz_wg wX1_areTwins_0 (j := 43) (n := 46) rfl)
theorem dX1_areTwins_44 : decode cX1_areTwins 44 = .ok (.isub, 1) := dq_100 (hz_wg wX1_areTwins_0 (j := 44) (n := 100) rfl)
theorem dX1_areTwins_45 : decode cX1_areTwins 45 = .ok (.invokestatic 49, 3) := dq_184 (hz_wg wX1_areTwins_0 (j := 45) (n := 184) rfl) (hz_wg wX1_areTwins_0 (j := 46) (n := 0) rfl) (hz_wg wX1_areTwins_0 (j := 47) (n := 49) rfl) rfl
theorem dX1_areTwins_48 : decode cX1_areTwins 48 = .ok (.iconst 3, 1) := dq_6 (hz_wg wX1_areTwins_0 (j := 48) (n := 6) rfl)
theorem dX1_areTwins_49 : decode cX1_areTwins 49 = .ok (.if_icmp .gt 7, 3) := dq_163 (hz_wg wX1_areTwins_0 (j := 49) (n := 163) rfl) (hz_wg wX1_areTwins_0 (j := 50) (n := 0) rfl) (hz_wg wX1_areTwins_0 (j := 51) (n := 7) rfl) (by decide)
theorem dX1_areTwins_52 : decode cX1_areTwins 52 = .ok (.iconst 1, 1) := dq_4 (hz_wg wX1_areTwins_0 (j := 52) (n := 4) rfl)
theorem dX1_areTwins_53 : decode cX1_areTwins 53 = .ok (.goto 4, 3) := dq_167 (hz_wg wX1_areTwins_0 (j := 53) (n := 167) rfl) (hz_wg wX1_areTwins_0 (j := 54) (n := 0) rfl) (hz_wg wX1_areTwins_0 (j := 55) (n := 4) rfl) (by decide)
theorem dX1_areTwins_56 : decode cX1_areTwins 56 = .ok (.iconst 0, 1) := dq_3 (hz_wg wX1_areTwins_0 (j := 56) (n := 3) rfl)
theorem dX1_areTwins_57 : decode cX1_areTwins 57 = .ok (.ireturn, 1) := dq_172 (hz_wg wX1_areTwins_0 (j := 57) (n := 172) rfl)
def wLX1_disorder_0 : List Nat := [3, 61, 3, 62, 3, 54, 4, 21, 4, 42, 180, 0, 34, 162, 0, 47, 42, 180, 0, 9, 21, 4, 46, 27, 160, 0, 30, 28, 42, 180, 0, 18, 21, 4, 46, 29, 162, 0, 7, 4, 167, 0, 4, 3, 96, 61, 42, 180, 0, 18, 21, 4, 46, 62, 132, 4, 1, 167, 255, 206, 28, 172]
theorem wX1_disorder_0 : (cX1_disorder.data.toList.map UInt8.toNat).drop 0 = wLX1_disorder_0 ++ ([]) := by decide +kernel
theorem dX1_disorder_0 : decode cX1_disorder 0 = .ok (.iconst 0, 1) := dq_3 (hz_wg wX1_disorder_0 (j := 0) (n := 3) rfl)
theorem dX1_disorder_1 : decode cX1_disorder 1 = .ok (.istore_n 2, 1) := dq_61 (hz_wg wX1_disorder_0 (j := 1) (n := 61) rfl)
theorem dX1_disorder_2 : decode cX1_disorder 2 = .ok (.iconst 0, 1) := dq_3 (hz_wg wX1_disorder_0 (j := 2) (n := 3) rfl)
theorem dX1_disorder_3 : decode cX1_disorder 3 = .ok (.istore_n 3, 1) := dq_62 (hz_wg wX1_disorder_0 (j := 3) (n := 62) rfl)
theorem dX1_disorder_4 : decode cX1_disorder 4 = .ok (.iconst 0, 1) := dq_3 (hz_wg wX1_disorder_0 (j := 4) (n := 3) rfl)
theorem dX1_disorder_5 : decode cX1_disorder 5 = .ok (.istore 4, 2) := dq_54 (hz_wg wX1_disorder_0 (j := 5) (n := 54) rfl) (hz_wg wX1_disorder_0 (j := 6) (n := 4) rfl)
theorem dX1_disorder_7 : decode cX1_disorder 7 = .ok (.iload 4, 2) := dq_21 (hz_wg wX1_disorder_0 (j := 7) (n := 21) rfl) (hz_wg wX1_disorder_0 (j := 8) (n := 4) rfl)
theorem dX1_disorder_9 : decode cX1_disorder 9 = .ok (.aload_n 0, 1) := dq_42 (hz_wg wX1_disorder_0 (j := 9) (n := 42) rfl)
theorem dX1_disorder_10 : decode cX1_disorder 10 = .ok (.getfield 34, 3) := dq_180 (hz_wg wX1_disorder_0 (j := 10) (n := 180) rfl) (hz_wg wX1_disorder_0 (j := 11) (n := 0) rfl) (hz_wg wX1_disorder_0 (j := 12) (n := 34) rfl) rfl
theorem dX1_disorder_13 : decode cX1_disorder 13 = .ok (.if_icmp .ge 47, 3) := dq_162 (hz_wg wX1_disorder_0 (j := 13) (n := 162) rfl) (hz_wg wX1_disorder_0 (j := 14) (n := 0) rfl) (hz_wg wX1_disorder_0 (j := 15) (n := 47) rfl) (by decide)
theorem dX1_disorder_16 : decode cX1_disorder 16 = .ok (.aload_n 0, 1) := dq_42 (hz_wg wX1_disorder_0 (j := 16) (n := 42) rfl)
theorem dX1_disorder_17 : decode cX1_disorder 17 = .ok (.getfield 9, 3) := dq_180 (hz_wg wX1_disorder_0 (j := 17) (n := 180) rfl) (hz_wg wX1_disorder_0 (j := 18) (n := 0) rfl) (hz_wg wX1_disorder_0 (j := 19) (n := 9) rfl) rfl
theorem dX1_disorder_20 : decode cX1_disorder 20 = .ok (.iload 4, 2) := dq_21 (hz_wg wX1_disorder_0 (j := 20) (n := 21) rfl) (hz_wg wX1_disorder_0 (j := 21) (n := 4) rfl)
theorem dX1_disorder_22 : decode cX1_disorder 22 = .ok (.iaload, 1) := dq_46 (hz_wg wX1_disorder_0 (j := 22) (n := 46) rfl)
theorem dX1_disorder_23 : decode cX1_disorder 23 = .ok (.iload_n 1, 1) := dq_27 (hz_wg wX1_disorder_0 (j := 23) (n := 27) rfl)
theorem dX1_disorder_24 : decode cX1_disorder 24 = .ok (.if_icmp .ne 30, 3) := dq_160 (hz_wg wX1_disorder_0 (j := 24) (n := 160) rfl) (hz_wg wX1_disorder_0 (j := 25) (n := 0) rfl) (hz_wg wX1_disorder_0 (j := 26) (n := 30) rfl) (by decide)
theorem dX1_disorder_27 : decode cX1_disorder 27 = .ok (.iload_n 2, 1) := dq_28 (hz_wg wX1_disorder_0 (j := 27) (n := 28) rfl)
theorem dX1_disorder_28 : decode cX1_disorder 28 = .ok (.aload_n 0, 1) := dq_42 (hz_wg wX1_disorder_0 (j := 28) (n := 42) rfl)
theorem dX1_disorder_29 : decode cX1_disorder 29 = .ok (.getfield 18, 3) := dq_180 (hz_wg wX1_disorder_0 (j := 29) (n := 180) rfl) (hz_wg wX1_disorder_0 (j := 30) (n := 0) rfl) (hz_wg wX1_disorder_0 (j := 31) (n := 18) rfl) rfl
theorem dX1_disorder_32 : decode cX1_disorder 32 = .ok (.iload 4, 2) := dq_21 (hz_wg wX1_disorder_0 (j := 32) (n := 21) rfl) (hz_wg wX1_disorder_0 (j := 33) (n := 4) rfl)
theorem dX1_disorder_34 : decode cX1_disorder 34 = .ok (.iaload, 1) := dq_46 (hz_wg wX1_disorder_0 (j := 34) (n := 46) rfl)
theorem dX1_disorder_35 : decode cX1_disorder 35 = .ok (.iload_n 3, 1) := dq_29 (hz_wg wX1_disorder_0 (j := 35) (n := 29) rfl)
theorem dX1_disorder_36 : decode cX1_disorder 36 = .ok (.if_icmp .ge 7, 3) := dq_162 (hz_wg wX1_disorder_0 (j := 36) (n := 162) rfl) (hz_wg wX1_disorder_0 (j := 37) (n := 0) rfl) (hz_wg wX1_disorder_0 (j := 38) (n := 7) rfl) (by decide)
theorem dX1_disorder_39 : decode cX1_disorder 39 = .ok (.iconst 1, 1) := dq_4 (hz_wg wX1_disorder_0 (j := 39) (n := 4) rfl)
theorem dX1_disorder_40 : decode cX1_disorder 40 = .ok (.goto 4, 3) := dq_167 (hz_wg wX1_disorder_0 (j := 40) (n := 167) rfl) (hz_wg wX1_disorder_0 (j := 41) (n := 0) rfl) (hz_wg wX1_disorder_0 (j := 42) (n := 4) rfl) (by decide)
theorem dX1_disorder_43 : decode cX1_disorder 43 = .ok (.iconst 0, 1) := dq_3 (hz_wg wX1_disorder_0 (j := 43) (n := 3) rfl)
theorem dX1_disorder_44 : decode cX1_disorder 44 = .ok (.iadd, 1) := dq_96 (hz_wg wX1_disorder_0 (j := 44) (n := 96) rfl)
theorem dX1_disorder_45 : decode cX1_disorder 45 = .ok (.istore_n 2, 1) := dq_61 (hz_wg wX1_disorder_0 (j := 45) (n := 61) rfl)
theorem dX1_disorder_46 : decode cX1_disorder 46 = .ok (.aload_n 0, 1) := dq_42 (hz_wg wX1_disorder_0 (j := 46) (n := 42) rfl)
theorem dX1_disorder_47 : decode cX1_disorder 47 = .ok (.getfield 18, 3) := dq_180 (hz_wg wX1_disorder_0 (j := 47) (n := 180) rfl) (hz_wg wX1_disorder_0 (j := 48) (n := 0) rfl) (hz_wg wX1_disorder_0 (j := 49) (n := 18) rfl) rfl
theorem dX1_disorder_50 : decode cX1_disorder 50 = .ok (.iload 4, 2) := dq_21 (hz_wg wX1_disorder_0 (j := 50) (n := 21) rfl) (hz_wg wX1_disorder_0 (j := 51) (n := 4) rfl)
theorem dX1_disorder_52 : decode cX1_disorder 52 = .ok (.iaload, 1) := dq_46 (hz_wg wX1_disorder_0 (j := 52) (n := 46) rfl)
theorem dX1_disorder_53 : decode cX1_disorder 53 = .ok (.istore_n 3, 1) := dq_62 (hz_wg wX1_disorder_0 (j := 53) (n := 62) rfl)
theorem dX1_disorder_54 : decode cX1_disorder 54 = .ok (.iinc 4 1, 3) := dq_132 (hz_wg wX1_disorder_0 (j := 54) (n := 132) rfl) (hz_wg wX1_disorder_0 (j := 55) (n := 4) rfl) (hz_wg wX1_disorder_0 (j := 56) (n := 1) rfl) (by decide)
theorem dX1_disorder_57 : decode cX1_disorder 57 = .ok (.goto (-50), 3) := dq_167 (hz_wg wX1_disorder_0 (j := 57) (n := 167) rfl) (hz_wg wX1_disorder_0 (j := 58) (n := 255) rfl) (hz_wg wX1_disorder_0 (j := 59) (n := 206) rfl) (by decide)
theorem dX1_disorder_60 : decode cX1_disorder 60 = .ok (.iload_n 2, 1) := dq_28 (hz_wg wX1_disorder_0 (j := 60) (n := 28) rfl)
theorem dX1_disorder_61 : decode cX1_disorder 61 = .ok (.ireturn, 1) := dq_172 (hz_wg wX1_disorder_0 (j := 61) (n := 172) rfl)
def wLX1_takeTwin_0 : List Nat := [3, 62, 29, 42, 180, 0, 34, 162, 0, 69, 42, 180, 0, 27, 29, 46, 54, 4, 42, 180, 0, 30, 21, 4, 51, 154, 0, 45, 42, 21, 4, 42, 180, 0, 15, 27, 46, 42, 180, 0, 9, 27, 46, 28, 182, 0, 38, 153, 0, 23, 42, 27, 21, 4, 182, 0, 46, 153, 0, 13, 42, 180, 0, 30]
def wLX1_takeTwin_1 : List Nat := [21, 4, 4, 84, 4, 172, 132, 3, 1, 167, 255, 185, 3, 172]
theorem wX1_takeTwin_0 : (cX1_takeTwin.data.toList.map UInt8.toNat).drop 0 = wLX1_takeTwin_0 ++ (wLX1_takeTwin_1 ++ ([])) := by decide +kernel
theorem wX1_takeTwin_1 : (cX1_takeTwin.data.toList.map UInt8.toNat).drop 64 = wLX1_takeTwin_1 ++ ([]) := hz_wn wX1_takeTwin_0 rfl
theorem dX1_takeTwin_0 : decode cX1_takeTwin 0 = .ok (.iconst 0, 1) := dq_3 (hz_wg wX1_takeTwin_0 (j := 0) (n := 3) rfl)
theorem dX1_takeTwin_1 : decode cX1_takeTwin 1 = .ok (.istore_n 3, 1) := dq_62 (hz_wg wX1_takeTwin_0 (j := 1) (n := 62) rfl)
theorem dX1_takeTwin_2 : decode cX1_takeTwin 2 = .ok (.iload_n 3, 1) := dq_29 (hz_wg wX1_takeTwin_0 (j := 2) (n := 29) rfl)
theorem dX1_takeTwin_3 : decode cX1_takeTwin 3 = .ok (.aload_n 0, 1) := dq_42 (hz_wg wX1_takeTwin_0 (j := 3) (n := 42) rfl)
theorem dX1_takeTwin_4 : decode cX1_takeTwin 4 = .ok (.getfield 34, 3) := dq_180 (hz_wg wX1_takeTwin_0 (j := 4) (n := 180) rfl) (hz_wg wX1_takeTwin_0 (j := 5) (n := 0) rfl) (hz_wg wX1_takeTwin_0 (j := 6) (n := 34) rfl) rfl
theorem dX1_takeTwin_7 : decode cX1_takeTwin 7 = .ok (.if_icmp .ge 69, 3) := dq_162 (hz_wg wX1_takeTwin_0 (j := 7) (n := 162) rfl) (hz_wg wX1_takeTwin_0 (j := 8) (n := 0) rfl) (hz_wg wX1_takeTwin_0 (j := 9) (n := 69) rfl) (by decide)
theorem dX1_takeTwin_10 : decode cX1_takeTwin 10 = .ok (.aload_n 0, 1) := dq_42 (hz_wg wX1_takeTwin_0 (j := 10) (n := 42) rfl)
theorem dX1_takeTwin_11 : decode cX1_takeTwin 11 = .ok (.getfield 27, 3) := dq_180 (hz_wg wX1_takeTwin_0 (j := 11) (n := 180) rfl) (hz_wg wX1_takeTwin_0 (j := 12) (n := 0) rfl) (hz_wg wX1_takeTwin_0 (j := 13) (n := 27) rfl) rfl
theorem dX1_takeTwin_14 : decode cX1_takeTwin 14 = .ok (.iload_n 3, 1) := dq_29 (hz_wg wX1_takeTwin_0 (j := 14) (n := 29) rfl)
theorem dX1_takeTwin_15 : decode cX1_takeTwin 15 = .ok (.iaload, 1) := dq_46 (hz_wg wX1_takeTwin_0 (j := 15) (n := 46) rfl)
theorem dX1_takeTwin_16 : decode cX1_takeTwin 16 = .ok (.istore 4, 2) := dq_54 (hz_wg wX1_takeTwin_0 (j := 16) (n := 54) rfl) (hz_wg wX1_takeTwin_0 (j := 17) (n := 4) rfl)
theorem dX1_takeTwin_18 : decode cX1_takeTwin 18 = .ok (.aload_n 0, 1) := dq_42 (hz_wg wX1_takeTwin_0 (j := 18) (n := 42) rfl)
theorem dX1_takeTwin_19 : decode cX1_takeTwin 19 = .ok (.getfield 30, 3) := dq_180 (hz_wg wX1_takeTwin_0 (j := 19) (n := 180) rfl) (hz_wg wX1_takeTwin_0 (j := 20) (n := 0) rfl) (hz_wg wX1_takeTwin_0 (j := 21) (n := 30) rfl) rfl
theorem dX1_takeTwin_22 : decode cX1_takeTwin 22 = .ok (.iload 4, 2) := dq_21 (hz_wg wX1_takeTwin_0 (j := 22) (n := 21) rfl) (hz_wg wX1_takeTwin_0 (j := 23) (n := 4) rfl)
theorem dX1_takeTwin_24 : decode cX1_takeTwin 24 = .ok (.baload, 1) := dq_51 (hz_wg wX1_takeTwin_0 (j := 24) (n := 51) rfl)
theorem dX1_takeTwin_25 : decode cX1_takeTwin 25 = .ok (.ifCond .ne 45, 3) := dq_154 (hz_wg wX1_takeTwin_0 (j := 25) (n := 154) rfl) (hz_wg wX1_takeTwin_0 (j := 26) (n := 0) rfl) (hz_wg wX1_takeTwin_0 (j := 27) (n := 45) rfl) (by decide)
theorem dX1_takeTwin_28 : decode cX1_takeTwin 28 = .ok (.aload_n 0, 1) := dq_42 (hz_wg wX1_takeTwin_0 (j := 28) (n := 42) rfl)
theorem dX1_takeTwin_29 : decode cX1_takeTwin 29 = .ok (.iload 4, 2) := dq_21 (hz_wg wX1_takeTwin_0 (j := 29) (n := 21) rfl) (hz_wg wX1_takeTwin_0 (j := 30) (n := 4) rfl)
theorem dX1_takeTwin_31 : decode cX1_takeTwin 31 = .ok (.aload_n 0, 1) := dq_42 (hz_wg wX1_takeTwin_0 (j := 31) (n := 42) rfl)
theorem dX1_takeTwin_32 : decode cX1_takeTwin 32 = .ok (.getfield 15, 3) := dq_180 (hz_wg wX1_takeTwin_0 (j := 32) (n := 180) rfl) (hz_wg wX1_takeTwin_0 (j := 33) (n := 0) rfl) (hz_wg wX1_takeTwin_0 (j := 34) (n := 15) rfl) rfl
theorem dX1_takeTwin_35 : decode cX1_takeTwin 35 = .ok (.iload_n 1, 1) := dq_27 (hz_wg wX1_takeTwin_0 (j := 35) (n := 27) rfl)
theorem dX1_takeTwin_36 : decode cX1_takeTwin 36 = .ok (.iaload, 1) := dq_46 (hz_wg wX1_takeTwin_0 (j := 36) (n := 46) rfl)
theorem dX1_takeTwin_37 : decode cX1_takeTwin 37 = .ok (.aload_n 0, 1) := dq_42 (hz_wg wX1_takeTwin_0 (j := 37) (n := 42) rfl)
theorem dX1_takeTwin_38 : decode cX1_takeTwin 38 = .ok (.getfield 9, 3) := dq_180 (hz_wg wX1_takeTwin_0 (j := 38) (n := 180) rfl) (hz_wg wX1_takeTwin_0 (j := 39) (n := 0) rfl) (hz_wg wX1_takeTwin_0 (j := 40) (n := 9) rfl) rfl
theorem dX1_takeTwin_41 : decode cX1_takeTwin 41 = .ok (.iload_n 1, 1) := dq_27 (hz_wg wX1_takeTwin_0 (j := 41) (n := 27) rfl)
theorem dX1_takeTwin_42 : decode cX1_takeTwin 42 = .ok (.iaload, 1) := dq_46 (hz_wg wX1_takeTwin_0 (j := 42) (n := 46) rfl)
theorem dX1_takeTwin_43 : decode cX1_takeTwin 43 = .ok (.iload_n 2, 1) := dq_28 (hz_wg wX1_takeTwin_0 (j := 43) (n := 28) rfl)
theorem dX1_takeTwin_44 : decode cX1_takeTwin 44 = .ok (.invokevirtual 38, 3) := dq_182 (hz_wg wX1_takeTwin_0 (j := 44) (n := 182) rfl) (hz_wg wX1_takeTwin_0 (j := 45) (n := 0) rfl) (hz_wg wX1_takeTwin_0 (j := 46) (n := 38) rfl) rfl
theorem dX1_takeTwin_47 : decode cX1_takeTwin 47 = .ok (.ifCond .eq 23, 3) := dq_153 (hz_wg wX1_takeTwin_0 (j := 47) (n := 153) rfl) (hz_wg wX1_takeTwin_0 (j := 48) (n := 0) rfl) (hz_wg wX1_takeTwin_0 (j := 49) (n := 23) rfl) (by decide)
theorem dX1_takeTwin_50 : decode cX1_takeTwin 50 = .ok (.aload_n 0, 1) := dq_42 (hz_wg wX1_takeTwin_0 (j := 50) (n := 42) rfl)
theorem dX1_takeTwin_51 : decode cX1_takeTwin 51 = .ok (.iload_n 1, 1) := dq_27 (hz_wg wX1_takeTwin_0 (j := 51) (n := 27) rfl)
theorem dX1_takeTwin_52 : decode cX1_takeTwin 52 = .ok (.iload 4, 2) := dq_21 (hz_wg wX1_takeTwin_0 (j := 52) (n := 21) rfl) (hz_wg wX1_takeTwin_0 (j := 53) (n := 4) rfl)
theorem dX1_takeTwin_54 : decode cX1_takeTwin 54 = .ok (.invokevirtual 46, 3) := dq_182 (hz_wg wX1_takeTwin_0 (j := 54) (n := 182) rfl) (hz_wg wX1_takeTwin_0 (j := 55) (n := 0) rfl) (hz_wg wX1_takeTwin_0 (j := 56) (n := 46) rfl) rfl
theorem dX1_takeTwin_57 : decode cX1_takeTwin 57 = .ok (.ifCond .eq 13, 3) := dq_153 (hz_wg wX1_takeTwin_0 (j := 57) (n := 153) rfl) (hz_wg wX1_takeTwin_0 (j := 58) (n := 0) rfl) (hz_wg wX1_takeTwin_0 (j := 59) (n := 13) rfl) (by decide)
theorem dX1_takeTwin_60 : decode cX1_takeTwin 60 = .ok (.aload_n 0, 1) := dq_42 (hz_wg wX1_takeTwin_0 (j := 60) (n := 42) rfl)
theorem dX1_takeTwin_61 : decode cX1_takeTwin 61 = .ok (.getfield 30, 3) := dq_180 (hz_wg wX1_takeTwin_0 (j := 61) (n := 180) rfl) (hz_wg wX1_takeTwin_0 (j := 62) (n := 0) rfl) (hz_wg wX1_takeTwin_0 (j := 63) (n := 30) rfl) rfl
theorem dX1_takeTwin_64 : decode cX1_takeTwin 64 = .ok (.iload 4, 2) := dq_21 (hz_wg wX1_takeTwin_1 (j := 0) (n := 21) rfl) (hz_wg wX1_takeTwin_1 (j := 1) (n := 4) rfl)
theorem dX1_takeTwin_66 : decode cX1_takeTwin 66 = .ok (.iconst 1, 1) := dq_4 (hz_wg wX1_takeTwin_1 (j := 2) (n := 4) rfl)
theorem dX1_takeTwin_67 : decode cX1_takeTwin 67 = .ok (.bastore, 1) := dq_84 (hz_wg wX1_takeTwin_1 (j := 3) (n := 84) rfl)
theorem dX1_takeTwin_68 : decode cX1_takeTwin 68 = .ok (.iconst 1, 1) := dq_4 (hz_wg wX1_takeTwin_1 (j := 4) (n := 4) rfl)
theorem dX1_takeTwin_69 : decode cX1_takeTwin 69 = .ok (.ireturn, 1) := dq_172 (hz_wg wX1_takeTwin_1 (j := 5) (n := 172) rfl)
theorem dX1_takeTwin_70 : decode cX1_takeTwin 70 = .ok (.iinc 3 1, 3) := dq_132 (hz_wg wX1_takeTwin_1 (j := 6) (n := 132) rfl) (hz_wg wX1_takeTwin_1 (j := 7) (n := 3) rfl) (hz_wg wX1_takeTwin_1 (j := 8) (n := 1) rfl) (by decide)
theorem dX1_takeTwin_73 : decode cX1_takeTwin 73 = .ok (.goto (-71), 3) := dq_167 (hz_wg wX1_takeTwin_1 (j := 9) (n := 167) rfl) (hz_wg wX1_takeTwin_1 (j := 10) (n := 255) rfl) (hz_wg wX1_takeTwin_1 (j := 11) (n := 185) rfl) (by decide)
theorem dX1_takeTwin_76 : decode cX1_takeTwin 76 = .ok (.iconst 0, 1) := dq_3 (hz_wg wX1_takeTwin_1 (j := 12) (n := 3) rfl)
theorem dX1_takeTwin_77 : decode cX1_takeTwin 77 = .ok (.ireturn, 1) := dq_172 (hz_wg wX1_takeTwin_1 (j := 13) (n := 172) rfl)
def wLX1_twinPairs_0 : List Nat := [3, 54, 4, 21, 4, 42, 180, 0, 34, 162, 0, 17, 42, 180, 0, 30, 21, 4, 3, 84, 132, 4, 1, 167, 255, 236, 3, 54, 4, 3, 54, 5, 21, 5, 42, 180, 0, 34, 162, 0, 44, 42, 42, 180, 0, 27, 21, 5, 46, 27, 28, 29, 182, 0, 38, 153, 0, 21, 42, 42, 180, 0, 27, 21]
def wLX1_twinPairs_1 : List Nat := [5, 46, 29, 182, 0, 42, 153, 0, 6, 132, 4, 1, 132, 5, 1, 167, 255, 209, 21, 4, 172]
theorem wX1_twinPairs_0 : (cX1_twinPairs.data.toList.map UInt8.toNat).drop 0 = wLX1_twinPairs_0 ++ (wLX1_twinPairs_1 ++ ([])) := by decide +kernel
theorem wX1_twinPairs_1 : (cX1_twinPairs.data.toList.map UInt8.toNat).drop 64 = wLX1_twinPairs_1 ++ ([]) := hz_wn wX1_twinPairs_0 rfl
theorem dX1_twinPairs_0 : decode cX1_twinPairs 0 = .ok (.iconst 0, 1) := dq_3 (hz_wg wX1_twinPairs_0 (j := 0) (n := 3) rfl)
theorem dX1_twinPairs_1 : decode cX1_twinPairs 1 = .ok (.istore 4, 2) := dq_54 (hz_wg wX1_twinPairs_0 (j := 1) (n := 54) rfl) (hz_wg wX1_twinPairs_0 (j := 2) (n := 4) rfl)
theorem dX1_twinPairs_3 : decode cX1_twinPairs 3 = .ok (.iload 4, 2) := dq_21 (hz_wg wX1_twinPairs_0 (j := 3) (n := 21) rfl) (hz_wg wX1_twinPairs_0 (j := 4) (n := 4) rfl)
theorem dX1_twinPairs_5 : decode cX1_twinPairs 5 = .ok (.aload_n 0, 1) := dq_42 (hz_wg wX1_twinPairs_0 (j := 5) (n := 42) rfl)
theorem dX1_twinPairs_6 : decode cX1_twinPairs 6 = .ok (.getfield 34, 3) := dq_180 (hz_wg wX1_twinPairs_0 (j := 6) (n := 180) rfl) (hz_wg wX1_twinPairs_0 (j := 7) (n := 0) rfl) (hz_wg wX1_twinPairs_0 (j := 8) (n := 34) rfl) rfl
theorem dX1_twinPairs_9 : decode cX1_twinPairs 9 = .ok (.if_icmp .ge 17, 3) := dq_162 (hz_wg wX1_twinPairs_0 (j := 9) (n := 162) rfl) (hz_wg wX1_twinPairs_0 (j := 10) (n := 0) rfl) (hz_wg wX1_twinPairs_0 (j := 11) (n := 17) rfl) (by decide)
theorem dX1_twinPairs_12 : decode cX1_twinPairs 12 = .ok (.aload_n 0, 1) := dq_42 (hz_wg wX1_twinPairs_0 (j := 12) (n := 42) rfl)
theorem dX1_twinPairs_13 : decode cX1_twinPairs 13 = .ok (.getfield 30, 3) := dq_180 (hz_wg wX1_twinPairs_0 (j := 13) (n := 180) rfl) (hz_wg wX1_twinPairs_0 (j := 14) (n := 0) rfl) (hz_wg wX1_twinPairs_0 (j := 15) (n := 30) rfl) rfl
theorem dX1_twinPairs_16 : decode cX1_twinPairs 16 = .ok (.iload 4, 2) := dq_21 (hz_wg wX1_twinPairs_0 (j := 16) (n := 21) rfl) (hz_wg wX1_twinPairs_0 (j := 17) (n := 4) rfl)
theorem dX1_twinPairs_18 : decode cX1_twinPairs 18 = .ok (.iconst 0, 1) := dq_3 (hz_wg wX1_twinPairs_0 (j := 18) (n := 3) rfl)
theorem dX1_twinPairs_19 : decode cX1_twinPairs 19 = .ok (.bastore, 1) := dq_84 (hz_wg wX1_twinPairs_0 (j := 19) (n := 84) rfl)
theorem dX1_twinPairs_20 : decode cX1_twinPairs 20 = .ok (.iinc 4 1, 3) := dq_132 (hz_wg wX1_twinPairs_0 (j := 20) (n := 132) rfl) (hz_wg wX1_twinPairs_0 (j := 21) (n := 4) rfl) (hz_wg wX1_twinPairs_0 (j := 22) (n := 1) rfl) (by decide)
theorem dX1_twinPairs_23 : decode cX1_twinPairs 23 = .ok (.goto (-20), 3) := dq_167 (hz_wg wX1_twinPairs_0 (j := 23) (n := 167) rfl) (hz_wg wX1_twinPairs_0 (j := 24) (n := 255) rfl) (hz_wg wX1_twinPairs_0 (j := 25) (n := 236) rfl) (by decide)
theorem dX1_twinPairs_26 : decode cX1_twinPairs 26 = .ok (.iconst 0, 1) := dq_3 (hz_wg wX1_twinPairs_0 (j := 26) (n := 3) rfl)
theorem dX1_twinPairs_27 : decode cX1_twinPairs 27 = .ok (.istore 4, 2) := dq_54 (hz_wg wX1_twinPairs_0 (j := 27) (n := 54) rfl) (hz_wg wX1_twinPairs_0 (j := 28) (n := 4) rfl)
theorem dX1_twinPairs_29 : decode cX1_twinPairs 29 = .ok (.iconst 0, 1) := dq_3 (hz_wg wX1_twinPairs_0 (j := 29) (n := 3) rfl)
theorem dX1_twinPairs_30 : decode cX1_twinPairs 30 = .ok (.istore 5, 2) := dq_54 (hz_wg wX1_twinPairs_0 (j := 30) (n := 54) rfl) (hz_wg wX1_twinPairs_0 (j := 31) (n := 5) rfl)
theorem dX1_twinPairs_32 : decode cX1_twinPairs 32 = .ok (.iload 5, 2) := dq_21 (hz_wg wX1_twinPairs_0 (j := 32) (n := 21) rfl) (hz_wg wX1_twinPairs_0 (j := 33) (n := 5) rfl)
theorem dX1_twinPairs_34 : decode cX1_twinPairs 34 = .ok (.aload_n 0, 1) := dq_42 (hz_wg wX1_twinPairs_0 (j := 34) (n := 42) rfl)
theorem dX1_twinPairs_35 : decode cX1_twinPairs 35 = .ok (.getfield 34, 3) := dq_180 (hz_wg wX1_twinPairs_0 (j := 35) (n := 180) rfl) (hz_wg wX1_twinPairs_0 (j := 36) (n := 0) rfl) (hz_wg wX1_twinPairs_0 (j := 37) (n := 34) rfl) rfl
theorem dX1_twinPairs_38 : decode cX1_twinPairs 38 = .ok (.if_icmp .ge 44, 3) := dq_162 (hz_wg wX1_twinPairs_0 (j := 38) (n := 162) rfl) (hz_wg wX1_twinPairs_0 (j := 39) (n := 0) rfl) (hz_wg wX1_twinPairs_0 (j := 40) (n := 44) rfl) (by decide)
theorem dX1_twinPairs_41 : decode cX1_twinPairs 41 = .ok (.aload_n 0, 1) := dq_42 (hz_wg wX1_twinPairs_0 (j := 41) (n := 42) rfl)
theorem dX1_twinPairs_42 : decode cX1_twinPairs 42 = .ok (.aload_n 0, 1) := dq_42 (hz_wg wX1_twinPairs_0 (j := 42) (n := 42) rfl)
theorem dX1_twinPairs_43 : decode cX1_twinPairs 43 = .ok (.getfield 27, 3) := dq_180 (hz_wg wX1_twinPairs_0 (j := 43) (n := 180) rfl) (hz_wg wX1_twinPairs_0 (j := 44) (n := 0) rfl) (hz_wg wX1_twinPairs_0 (j := 45) (n := 27) rfl) rfl
theorem dX1_twinPairs_46 : decode cX1_twinPairs 46 = .ok (.iload 5, 2) := dq_21 (hz_wg wX1_twinPairs_0 (j := 46) (n := 21) rfl) (hz_wg wX1_twinPairs_0 (j := 47) (n := 5) rfl)
theorem dX1_twinPairs_48 : decode cX1_twinPairs 48 = .ok (.iaload, 1) := dq_46 (hz_wg wX1_twinPairs_0 (j := 48) (n := 46) rfl)
theorem dX1_twinPairs_49 : decode cX1_twinPairs 49 = .ok (.iload_n 1, 1) := dq_27 (hz_wg wX1_twinPairs_0 (j := 49) (n := 27) rfl)
theorem dX1_twinPairs_50 : decode cX1_twinPairs 50 = .ok (.iload_n 2, 1) := dq_28 (hz_wg wX1_twinPairs_0 (j := 50) (n := 28) rfl)
theorem dX1_twinPairs_51 : decode cX1_twinPairs 51 = .ok (.iload_n 3, 1) := dq_29 (hz_wg wX1_twinPairs_0 (j := 51) (n := 29) rfl)
theorem dX1_twinPairs_52 : decode cX1_twinPairs 52 = .ok (.invokevirtual 38, 3) := dq_182 (hz_wg wX1_twinPairs_0 (j := 52) (n := 182) rfl) (hz_wg wX1_twinPairs_0 (j := 53) (n := 0) rfl) (hz_wg wX1_twinPairs_0 (j := 54) (n := 38) rfl) rfl
theorem dX1_twinPairs_55 : decode cX1_twinPairs 55 = .ok (.ifCond .eq 21, 3) := dq_153 (hz_wg wX1_twinPairs_0 (j := 55) (n := 153) rfl) (hz_wg wX1_twinPairs_0 (j := 56) (n := 0) rfl) (hz_wg wX1_twinPairs_0 (j := 57) (n := 21) rfl) (by decide)
theorem dX1_twinPairs_58 : decode cX1_twinPairs 58 = .ok (.aload_n 0, 1) := dq_42 (hz_wg wX1_twinPairs_0 (j := 58) (n := 42) rfl)
theorem dX1_twinPairs_59 : decode cX1_twinPairs 59 = .ok (.aload_n 0, 1) := dq_42 (hz_wg wX1_twinPairs_0 (j := 59) (n := 42) rfl)
theorem dX1_twinPairs_60 : decode cX1_twinPairs 60 = .ok (.getfield 27, 3) := dq_180 (hz_wg wX1_twinPairs_0 (j := 60) (n := 180) rfl) (hz_wg wX1_twinPairs_0 (j := 61) (n := 0) rfl) (hz_wg wX1_twinPairs_0 (j := 62) (n := 27) rfl) rfl
theorem dX1_twinPairs_63 : decode cX1_twinPairs 63 = .ok (.iload 5, 2) := dq_21 (hz_wg wX1_twinPairs_0 (j := 63) (n := 21) rfl) (hz_wg wX1_twinPairs_1 (j := 0) (n := 5) rfl)
theorem dX1_twinPairs_65 : decode cX1_twinPairs 65 = .ok (.iaload, 1) := dq_46 (hz_wg wX1_twinPairs_1 (j := 1) (n := 46) rfl)
theorem dX1_twinPairs_66 : decode cX1_twinPairs 66 = .ok (.iload_n 3, 1) := dq_29 (hz_wg wX1_twinPairs_1 (j := 2) (n := 29) rfl)
theorem dX1_twinPairs_67 : decode cX1_twinPairs 67 = .ok (.invokevirtual 42, 3) := dq_182 (hz_wg wX1_twinPairs_1 (j := 3) (n := 182) rfl) (hz_wg wX1_twinPairs_1 (j := 4) (n := 0) rfl) (hz_wg wX1_twinPairs_1 (j := 5) (n := 42) rfl) rfl
theorem dX1_twinPairs_70 : decode cX1_twinPairs 70 = .ok (.ifCond .eq 6, 3) := dq_153 (hz_wg wX1_twinPairs_1 (j := 6) (n := 153) rfl) (hz_wg wX1_twinPairs_1 (j := 7) (n := 0) rfl) (hz_wg wX1_twinPairs_1 (j := 8) (n := 6) rfl) (by decide)
theorem dX1_twinPairs_73 : decode cX1_twinPairs 73 = .ok (.iinc 4 1, 3) := dq_132 (hz_wg wX1_twinPairs_1 (j := 9) (n := 132) rfl) (hz_wg wX1_twinPairs_1 (j := 10) (n := 4) rfl) (hz_wg wX1_twinPairs_1 (j := 11) (n := 1) rfl) (by decide)
theorem dX1_twinPairs_76 : decode cX1_twinPairs 76 = .ok (.iinc 5 1, 3) := dq_132 (hz_wg wX1_twinPairs_1 (j := 12) (n := 132) rfl) (hz_wg wX1_twinPairs_1 (j := 13) (n := 5) rfl) (hz_wg wX1_twinPairs_1 (j := 14) (n := 1) rfl) (by decide)
theorem dX1_twinPairs_79 : decode cX1_twinPairs 79 = .ok (.goto (-47), 3) := dq_167 (hz_wg wX1_twinPairs_1 (j := 15) (n := 167) rfl) (hz_wg wX1_twinPairs_1 (j := 16) (n := 255) rfl) (hz_wg wX1_twinPairs_1 (j := 17) (n := 209) rfl) (by decide)
theorem dX1_twinPairs_82 : decode cX1_twinPairs 82 = .ok (.iload 4, 2) := dq_21 (hz_wg wX1_twinPairs_1 (j := 18) (n := 21) rfl) (hz_wg wX1_twinPairs_1 (j := 19) (n := 4) rfl)
theorem dX1_twinPairs_84 : decode cX1_twinPairs 84 = .ok (.ireturn, 1) := dq_172 (hz_wg wX1_twinPairs_1 (j := 20) (n := 172) rfl)
def wLX1_addLine_0 : List Nat := [42, 180, 0, 34, 17, 1, 144, 161, 0, 4, 177, 42, 180, 0, 9, 42, 180, 0, 34, 27, 79, 42, 180, 0, 15, 42, 180, 0, 34, 28, 79, 42, 180, 0, 18, 42, 180, 0, 34, 29, 79, 42, 180, 0, 21, 42, 180, 0, 34, 21, 4, 79, 42, 180, 0, 24, 42, 180, 0, 34, 21, 5, 79, 42]
def wLX1_addLine_1 : List Nat := [180, 0, 34, 54, 6, 21, 6, 158, 0, 43, 42, 180, 0, 18, 42, 180, 0, 27, 21, 6, 4, 100, 46, 46, 29, 164, 0, 25, 42, 180, 0, 27, 21, 6, 42, 180, 0, 27, 21, 6, 4, 100, 46, 79, 132, 6, 255, 167, 255, 214, 42, 180, 0, 27, 21, 6, 42, 180, 0, 34, 79, 42, 89, 180]
def wLX1_addLine_2 : List Nat := [0, 34, 4, 96, 181, 0, 34, 177]
theorem wX1_addLine_0 : (cX1_addLine.data.toList.map UInt8.toNat).drop 0 = wLX1_addLine_0 ++ (wLX1_addLine_1 ++ (wLX1_addLine_2 ++ ([]))) := by decide +kernel
theorem wX1_addLine_1 : (cX1_addLine.data.toList.map UInt8.toNat).drop 64 = wLX1_addLine_1 ++ (wLX1_addLine_2 ++ ([])) := hz_wn wX1_addLine_0 rfl
theorem wX1_addLine_2 : (cX1_addLine.data.toList.map UInt8.toNat).drop 128 = wLX1_addLine_2 ++ ([]) := hz_wn wX1_addLine_1 rfl
theorem dX1_addLine_0 : decode cX1_addLine 0 = .ok (.aload_n 0, 1) := dq_42 (hz_wg wX1_addLine_0 (j := 0) (n := 42) rfl)
theorem dX1_addLine_1 : decode cX1_addLine 1 = .ok (.getfield 34, 3) := dq_180 (hz_wg wX1_addLine_0 (j := 1) (n := 180) rfl) (hz_wg wX1_addLine_0 (j := 2) (n := 0) rfl) (hz_wg wX1_addLine_0 (j := 3) (n := 34) rfl) rfl
theorem dX1_addLine_4 : decode cX1_addLine 4 = .ok (.sipush 400, 3) := dq_17 (hz_wg wX1_addLine_0 (j := 4) (n := 17) rfl) (hz_wg wX1_addLine_0 (j := 5) (n := 1) rfl) (hz_wg wX1_addLine_0 (j := 6) (n := 144) rfl) (by decide)
theorem dX1_addLine_7 : decode cX1_addLine 7 = .ok (.if_icmp .lt 4, 3) := dq_161 (hz_wg wX1_addLine_0 (j := 7) (n := 161) rfl) (hz_wg wX1_addLine_0 (j := 8) (n := 0) rfl) (hz_wg wX1_addLine_0 (j := 9) (n := 4) rfl) (by decide)
theorem dX1_addLine_11 : decode cX1_addLine 11 = .ok (.aload_n 0, 1) := dq_42 (hz_wg wX1_addLine_0 (j := 11) (n := 42) rfl)
theorem dX1_addLine_12 : decode cX1_addLine 12 = .ok (.getfield 9, 3) := dq_180 (hz_wg wX1_addLine_0 (j := 12) (n := 180) rfl) (hz_wg wX1_addLine_0 (j := 13) (n := 0) rfl) (hz_wg wX1_addLine_0 (j := 14) (n := 9) rfl) rfl
theorem dX1_addLine_15 : decode cX1_addLine 15 = .ok (.aload_n 0, 1) := dq_42 (hz_wg wX1_addLine_0 (j := 15) (n := 42) rfl)
theorem dX1_addLine_16 : decode cX1_addLine 16 = .ok (.getfield 34, 3) := dq_180 (hz_wg wX1_addLine_0 (j := 16) (n := 180) rfl) (hz_wg wX1_addLine_0 (j := 17) (n := 0) rfl) (hz_wg wX1_addLine_0 (j := 18) (n := 34) rfl) rfl
theorem dX1_addLine_19 : decode cX1_addLine 19 = .ok (.iload_n 1, 1) := dq_27 (hz_wg wX1_addLine_0 (j := 19) (n := 27) rfl)
theorem dX1_addLine_20 : decode cX1_addLine 20 = .ok (.iastore, 1) := dq_79 (hz_wg wX1_addLine_0 (j := 20) (n := 79) rfl)
theorem dX1_addLine_21 : decode cX1_addLine 21 = .ok (.aload_n 0, 1) := dq_42 (hz_wg wX1_addLine_0 (j := 21) (n := 42) rfl)
theorem dX1_addLine_22 : decode cX1_addLine 22 = .ok (.getfield 15, 3) := dq_180 (hz_wg wX1_addLine_0 (j := 22) (n := 180) rfl) (hz_wg wX1_addLine_0 (j := 23) (n := 0) rfl) (hz_wg wX1_addLine_0 (j := 24) (n := 15) rfl) rfl
theorem dX1_addLine_25 : decode cX1_addLine 25 = .ok (.aload_n 0, 1) := dq_42 (hz_wg wX1_addLine_0 (j := 25) (n := 42) rfl)
theorem dX1_addLine_26 : decode cX1_addLine 26 = .ok (.getfield 34, 3) := dq_180 (hz_wg wX1_addLine_0 (j := 26) (n := 180) rfl) (hz_wg wX1_addLine_0 (j := 27) (n := 0) rfl) (hz_wg wX1_addLine_0 (j := 28) (n := 34) rfl) rfl
theorem dX1_addLine_29 : decode cX1_addLine 29 = .ok (.iload_n 2, 1) := dq_28 (hz_wg wX1_addLine_0 (j := 29) (n := 28) rfl)
theorem dX1_addLine_30 : decode cX1_addLine 30 = .ok (.iastore, 1) := dq_79 (hz_wg wX1_addLine_0 (j := 30) (n := 79) rfl)
theorem dX1_addLine_31 : decode cX1_addLine 31 = .ok (.aload_n 0, 1) := dq_42 (hz_wg wX1_addLine_0 (j := 31) (n := 42) rfl)
theorem dX1_addLine_32 : decode cX1_addLine 32 = .ok (.getfield 18, 3) := dq_180 (hz_wg wX1_addLine_0 (j := 32) (n := 180) rfl) (hz_wg wX1_addLine_0 (j := 33) (n := 0) rfl) (hz_wg wX1_addLine_0 (j := 34) (n := 18) rfl) rfl
theorem dX1_addLine_35 : decode cX1_addLine 35 = .ok (.aload_n 0, 1) := dq_42 (hz_wg wX1_addLine_0 (j := 35) (n := 42) rfl)
theorem dX1_addLine_36 : decode cX1_addLine 36 = .ok (.getfield 34, 3) := dq_180 (hz_wg wX1_addLine_0 (j := 36) (n := 180) rfl) (hz_wg wX1_addLine_0 (j := 37) (n := 0) rfl) (hz_wg wX1_addLine_0 (j := 38) (n := 34) rfl) rfl
theorem dX1_addLine_39 : decode cX1_addLine 39 = .ok (.iload_n 3, 1) := dq_29 (hz_wg wX1_addLine_0 (j := 39) (n := 29) rfl)
theorem dX1_addLine_40 : decode cX1_addLine 40 = .ok (.iastore, 1) := dq_79 (hz_wg wX1_addLine_0 (j := 40) (n := 79) rfl)
theorem dX1_addLine_41 : decode cX1_addLine 41 = .ok (.aload_n 0, 1) := dq_42 (hz_wg wX1_addLine_0 (j := 41) (n := 42) rfl)
theorem dX1_addLine_42 : decode cX1_addLine 42 = .ok (.getfield 21, 3) := dq_180 (hz_wg wX1_addLine_0 (j := 42) (n := 180) rfl) (hz_wg wX1_addLine_0 (j := 43) (n := 0) rfl) (hz_wg wX1_addLine_0 (j := 44) (n := 21) rfl) rfl
theorem dX1_addLine_45 : decode cX1_addLine 45 = .ok (.aload_n 0, 1) := dq_42 (hz_wg wX1_addLine_0 (j := 45) (n := 42) rfl)
theorem dX1_addLine_46 : decode cX1_addLine 46 = .ok (.getfield 34, 3) := dq_180 (hz_wg wX1_addLine_0 (j := 46) (n := 180) rfl) (hz_wg wX1_addLine_0 (j := 47) (n := 0) rfl) (hz_wg wX1_addLine_0 (j := 48) (n := 34) rfl) rfl
theorem dX1_addLine_49 : decode cX1_addLine 49 = .ok (.iload 4, 2) := dq_21 (hz_wg wX1_addLine_0 (j := 49) (n := 21) rfl) (hz_wg wX1_addLine_0 (j := 50) (n := 4) rfl)
theorem dX1_addLine_51 : decode cX1_addLine 51 = .ok (.iastore, 1) := dq_79 (hz_wg wX1_addLine_0 (j := 51) (n := 79) rfl)
theorem dX1_addLine_52 : decode cX1_addLine 52 = .ok (.aload_n 0, 1) := dq_42 (hz_wg wX1_addLine_0 (j := 52) (n := 42) rfl)
theorem dX1_addLine_53 : decode cX1_addLine 53 = .ok (.getfield 24, 3) := dq_180 (hz_wg wX1_addLine_0 (j := 53) (n := 180) rfl) (hz_wg wX1_addLine_0 (j := 54) (n := 0) rfl) (hz_wg wX1_addLine_0 (j := 55) (n := 24) rfl) rfl
theorem dX1_addLine_56 : decode cX1_addLine 56 = .ok (.aload_n 0, 1) := dq_42 (hz_wg wX1_addLine_0 (j := 56) (n := 42) rfl)
theorem dX1_addLine_57 : decode cX1_addLine 57 = .ok (.getfield 34, 3) := dq_180 (hz_wg wX1_addLine_0 (j := 57) (n := 180) rfl) (hz_wg wX1_addLine_0 (j := 58) (n := 0) rfl) (hz_wg wX1_addLine_0 (j := 59) (n := 34) rfl) rfl
theorem dX1_addLine_60 : decode cX1_addLine 60 = .ok (.iload 5, 2) := dq_21 (hz_wg wX1_addLine_0 (j := 60) (n := 21) rfl) (hz_wg wX1_addLine_0 (j := 61) (n := 5) rfl)
theorem dX1_addLine_62 : decode cX1_addLine 62 = .ok (.iastore, 1) := dq_79 (hz_wg wX1_addLine_0 (j := 62) (n := 79) rfl)
theorem dX1_addLine_63 : decode cX1_addLine 63 = .ok (.aload_n 0, 1) := dq_42 (hz_wg wX1_addLine_0 (j := 63) (n := 42) rfl)
theorem dX1_addLine_64 : decode cX1_addLine 64 = .ok (.getfield 34, 3) := dq_180 (hz_wg wX1_addLine_1 (j := 0) (n := 180) rfl) (hz_wg wX1_addLine_1 (j := 1) (n := 0) rfl) (hz_wg wX1_addLine_1 (j := 2) (n := 34) rfl) rfl
theorem dX1_addLine_67 : decode cX1_addLine 67 = .ok (.istore 6, 2) := dq_54 (hz_wg wX1_addLine_1 (j := 3) (n := 54) rfl) (hz_wg wX1_addLine_1 (j := 4) (n := 6) rfl)
theorem dX1_addLine_69 : decode cX1_addLine 69 = .ok (.iload 6, 2) := dq_21 (hz_wg wX1_addLine_1 (j := 5) (n := 21) rfl) (hz_wg wX1_addLine_1 (j := 6) (n := 6) rfl)
theorem dX1_addLine_71 : decode cX1_addLine 71 = .ok (.ifCond .le 43, 3) := dq_158 (hz_wg wX1_addLine_1 (j := 7) (n := 158) rfl) (hz_wg wX1_addLine_1 (j := 8) (n := 0) rfl) (hz_wg wX1_addLine_1 (j := 9) (n := 43) rfl) (by decide)
theorem dX1_addLine_74 : decode cX1_addLine 74 = .ok (.aload_n 0, 1) := dq_42 (hz_wg wX1_addLine_1 (j := 10) (n := 42) rfl)
theorem dX1_addLine_75 : decode cX1_addLine 75 = .ok (.getfield 18, 3) := dq_180 (hz_wg wX1_addLine_1 (j := 11) (n := 180) rfl) (hz_wg wX1_addLine_1 (j := 12) (n := 0) rfl) (hz_wg wX1_addLine_1 (j := 13) (n := 18) rfl) rfl
theorem dX1_addLine_78 : decode cX1_addLine 78 = .ok (.aload_n 0, 1) := dq_42 (hz_wg wX1_addLine_1 (j := 14) (n := 42) rfl)
theorem dX1_addLine_79 : decode cX1_addLine 79 = .ok (.getfield 27, 3) := dq_180 (hz_wg wX1_addLine_1 (j := 15) (n := 180) rfl) (hz_wg wX1_addLine_1 (j := 16) (n := 0) rfl) (hz_wg wX1_addLine_1 (j := 17) (n := 27) rfl) rfl
theorem dX1_addLine_82 : decode cX1_addLine 82 = .ok (.iload 6, 2) := dq_21 (hz_wg wX1_addLine_1 (j := 18) (n := 21) rfl) (hz_wg wX1_addLine_1 (j := 19) (n := 6) rfl)
theorem dX1_addLine_84 : decode cX1_addLine 84 = .ok (.iconst 1, 1) := dq_4 (hz_wg wX1_addLine_1 (j := 20) (n := 4) rfl)
theorem dX1_addLine_85 : decode cX1_addLine 85 = .ok (.isub, 1) := dq_100 (hz_wg wX1_addLine_1 (j := 21) (n := 100) rfl)
theorem dX1_addLine_86 : decode cX1_addLine 86 = .ok (.iaload, 1) := dq_46 (hz_wg wX1_addLine_1 (j := 22) (n := 46) rfl)
theorem dX1_addLine_87 : decode cX1_addLine 87 = .ok (.iaload, 1) := dq_46 (hz_wg wX1_addLine_1 (j := 23) (n := 46) rfl)
theorem dX1_addLine_88 : decode cX1_addLine 88 = .ok (.iload_n 3, 1) := dq_29 (hz_wg wX1_addLine_1 (j := 24) (n := 29) rfl)
theorem dX1_addLine_89 : decode cX1_addLine 89 = .ok (.if_icmp .le 25, 3) := dq_164 (hz_wg wX1_addLine_1 (j := 25) (n := 164) rfl) (hz_wg wX1_addLine_1 (j := 26) (n := 0) rfl) (hz_wg wX1_addLine_1 (j := 27) (n := 25) rfl) (by decide)
theorem dX1_addLine_92 : decode cX1_addLine 92 = .ok (.aload_n 0, 1) := dq_42 (hz_wg wX1_addLine_1 (j := 28) (n := 42) rfl)
theorem dX1_addLine_93 : decode cX1_addLine 93 = .ok (.getfield 27, 3) := dq_180 (hz_wg wX1_addLine_1 (j := 29) (n := 180) rfl) (hz_wg wX1_addLine_1 (j := 30) (n := 0) rfl) (hz_wg wX1_addLine_1 (j := 31) (n := 27) rfl) rfl
theorem dX1_addLine_96 : decode cX1_addLine 96 = .ok (.iload 6, 2) := dq_21 (hz_wg wX1_addLine_1 (j := 32) (n := 21) rfl) (hz_wg wX1_addLine_1 (j := 33) (n := 6) rfl)
theorem dX1_addLine_98 : decode cX1_addLine 98 = .ok (.aload_n 0, 1) := dq_42 (hz_wg wX1_addLine_1 (j := 34) (n := 42) rfl)
theorem dX1_addLine_99 : decode cX1_addLine 99 = .ok (.getfield 27, 3) := dq_180 (hz_wg wX1_addLine_1 (j := 35) (n := 180) rfl) (hz_wg wX1_addLine_1 (j := 36) (n := 0) rfl) (hz_wg wX1_addLine_1 (j := 37) (n := 27) rfl) rfl
theorem dX1_addLine_102 : decode cX1_addLine 102 = .ok (.iload 6, 2) := dq_21 (hz_wg wX1_addLine_1 (j := 38) (n := 21) rfl) (hz_wg wX1_addLine_1 (j := 39) (n := 6) rfl)
theorem dX1_addLine_104 : decode cX1_addLine 104 = .ok (.iconst 1, 1) := dq_4 (hz_wg wX1_addLine_1 (j := 40) (n := 4) rfl)
theorem dX1_addLine_105 : decode cX1_addLine 105 = .ok (.isub, 1) := dq_100 (hz_wg wX1_addLine_1 (j := 41) (n := 100) rfl)
theorem dX1_addLine_106 : decode cX1_addLine 106 = .ok (.iaload, 1) := dq_46 (hz_wg wX1_addLine_1 (j := 42) (n := 46) rfl)
theorem dX1_addLine_107 : decode cX1_addLine 107 = .ok (.iastore, 1) := dq_79 (hz_wg wX1_addLine_1 (j := 43) (n := 79) rfl)
theorem dX1_addLine_108 : decode cX1_addLine 108 = .ok (.iinc 6 (-1), 3) := dq_132 (hz_wg wX1_addLine_1 (j := 44) (n := 132) rfl) (hz_wg wX1_addLine_1 (j := 45) (n := 6) rfl) (hz_wg wX1_addLine_1 (j := 46) (n := 255) rfl) (by decide)
theorem dX1_addLine_111 : decode cX1_addLine 111 = .ok (.goto (-42), 3) := dq_167 (hz_wg wX1_addLine_1 (j := 47) (n := 167) rfl) (hz_wg wX1_addLine_1 (j := 48) (n := 255) rfl) (hz_wg wX1_addLine_1 (j := 49) (n := 214) rfl) (by decide)
theorem dX1_addLine_114 : decode cX1_addLine 114 = .ok (.aload_n 0, 1) := dq_42 (hz_wg wX1_addLine_1 (j := 50) (n := 42) rfl)
theorem dX1_addLine_115 : decode cX1_addLine 115 = .ok (.getfield 27, 3) := dq_180 (hz_wg wX1_addLine_1 (j := 51) (n := 180) rfl) (hz_wg wX1_addLine_1 (j := 52) (n := 0) rfl) (hz_wg wX1_addLine_1 (j := 53) (n := 27) rfl) rfl
theorem dX1_addLine_118 : decode cX1_addLine 118 = .ok (.iload 6, 2) := dq_21 (hz_wg wX1_addLine_1 (j := 54) (n := 21) rfl) (hz_wg wX1_addLine_1 (j := 55) (n := 6) rfl)
theorem dX1_addLine_120 : decode cX1_addLine 120 = .ok (.aload_n 0, 1) := dq_42 (hz_wg wX1_addLine_1 (j := 56) (n := 42) rfl)
theorem dX1_addLine_121 : decode cX1_addLine 121 = .ok (.getfield 34, 3) := dq_180 (hz_wg wX1_addLine_1 (j := 57) (n := 180) rfl) (hz_wg wX1_addLine_1 (j := 58) (n := 0) rfl) (hz_wg wX1_addLine_1 (j := 59) (n := 34) rfl) rfl
theorem dX1_addLine_124 : decode cX1_addLine 124 = .ok (.iastore, 1) := dq_79 (hz_wg wX1_addLine_1 (j := 60) (n := 79) rfl)
theorem dX1_addLine_125 : decode cX1_addLine 125 = .ok (.aload_n 0, 1) := dq_42 (hz_wg wX1_addLine_1 (j := 61) (n := 42) rfl)
theorem dX1_addLine_126 : decode cX1_addLine 126 = .ok (.dup, 1) := dq_89 (hz_wg wX1_addLine_1 (j := 62) (n := 89) rfl)
theorem dX1_addLine_127 : decode cX1_addLine 127 = .ok (.getfield 34, 3) := dq_180 (hz_wg wX1_addLine_1 (j := 63) (n := 180) rfl) (hz_wg wX1_addLine_2 (j := 0) (n := 0) rfl) (hz_wg wX1_addLine_2 (j := 1) (n := 34) rfl) rfl
theorem dX1_addLine_130 : decode cX1_addLine 130 = .ok (.iconst 1, 1) := dq_4 (hz_wg wX1_addLine_2 (j := 2) (n := 4) rfl)
theorem dX1_addLine_131 : decode cX1_addLine 131 = .ok (.iadd, 1) := dq_96 (hz_wg wX1_addLine_2 (j := 3) (n := 96) rfl)
theorem dX1_addLine_132 : decode cX1_addLine 132 = .ok (.putfield 34, 3) := dq_181 (hz_wg wX1_addLine_2 (j := 4) (n := 181) rfl) (hz_wg wX1_addLine_2 (j := 5) (n := 0) rfl) (hz_wg wX1_addLine_2 (j := 6) (n := 34) rfl) rfl
theorem dX1_addLine_135 : decode cX1_addLine 135 = .ok (.return_, 1) := dq_177 (hz_wg wX1_addLine_2 (j := 7) (n := 177) rfl)