def wLX6_readClause_0 : List Nat := [42, 182, 0, 35, 42, 180, 0, 19, 60, 42, 18, 49, 182, 0, 51, 61, 28, 156, 0, 10, 42, 27, 3, 182, 0, 45, 172, 28, 16, 10, 160, 0, 8, 42, 182, 0, 55, 172, 28, 16, 11, 160, 0, 35, 42, 180, 0, 31, 3, 181, 0, 58, 42, 16, 14, 27, 182, 0, 63, 153, 0, 15, 42, 3]
def wLX6_readClause_1 : List Nat := [182, 0, 66, 153, 0, 7, 4, 167, 0, 4, 3, 172, 42, 28, 27, 182, 0, 63, 153, 0, 30, 42, 28, 182, 0, 70, 153, 0, 22, 28, 16, 6, 160, 0, 12, 42, 16, 7, 182, 0, 70, 153, 0, 7, 4, 167, 0, 4, 3, 172]
theorem wX6_readClause_0 : (cX6_readClause.data.toList.map UInt8.toNat).drop 0 = wLX6_readClause_0 ++ (wLX6_readClause_1 ++ ([])) := by decide +kernel
theorem wX6_readClause_1 : (cX6_readClause.data.toList.map UInt8.toNat).drop 64 = wLX6_readClause_1 ++ ([]) := hz_wn wX6_readClause_0 rfl
theorem dX6_readClause_0 : decode cX6_readClause 0 = .ok (.aload_n 0, 1) := dq_42 (hz_wg wX6_readClause_0 (j := 0) (n := 42) rfl)
theorem dX6_readClause_1 : decode cX6_readClause 1 = .ok (.invokevirtual 35, 3) := dq_182 (hz_wg wX6_readClause_0 (j := 1) (n := 182) rfl) (hz_wg wX6_readClause_0 (j := 2) (n := 0) rfl) (hz_wg wX6_readClause_0 (j := 3) (n := 35) rfl) rfl
theorem dX6_readClause_4 : decode cX6_readClause 4 = .ok (.aload_n 0, 1) := dq_42 (hz_wg wX6_readClause_0 (j := 4) (n := 42) rfl)
theorem dX6_readClause_5 : decode cX6_readClause 5 = .ok (.getfield 19, 3) := dq_180 (hz_wg wX6_readClause_0 (j := 5) (n := 180) rfl) (hz_wg wX6_readClause_0 (j := 6) (n := 0) rfl) (hz_wg wX6_readClause_0 (j := 7) (n := 19) rfl) rfl
theorem dX6_readClause_8 : decode cX6_readClause 8 = .ok (.istore_n 1, 1) := dq_60 (hz_wg wX6_readClause_0 (j := 8) (n := 60) rfl)
theorem dX6_readClause_9 : decode cX6_readClause 9 = .ok (.aload_n 0, 1) := dq_42 (hz_wg wX6_readClause_0 (j := 9) (n := 42) rfl)
theorem dX6_readClause_10 : decode cX6_readClause 10 = .ok (.ldc 49, 2) := dq_18 (hz_wg wX6_readClause_0 (j := 10) (n := 18) rfl) (hz_wg wX6_readClause_0 (j := 11) (n := 49) rfl)
theorem dX6_readClause_12 : decode cX6_readClause 12 = .ok (.invokevirtual 51, 3) := dq_182 (hz_wg wX6_readClause_0 (j := 12) (n := 182) rfl) (hz_wg wX6_readClause_0 (j := 13) (n := 0) rfl) (hz_wg wX6_readClause_0 (j := 14) (n := 51) rfl) rfl
theorem dX6_readClause_15 : decode cX6_readClause 15 = .ok (.istore_n 2, 1) := dq_61 (hz_wg wX6_readClause_0 (j := 15) (n := 61) rfl)
theorem dX6_readClause_16 : decode cX6_readClause 16 = .ok (.iload_n 2, 1) := dq_28 (hz_wg wX6_readClause_0 (j := 16) (n := 28) rfl)
theorem dX6_readClause_17 : decode cX6_readClause 17 = .ok (.ifCond .ge 10, 3) := dq_156 (hz_wg wX6_readClause_0 (j := 17) (n := 156) rfl) (hz_wg wX6_readClause_0 (j := 18) (n := 0) rfl) (hz_wg wX6_readClause_0 (j := 19) (n := 10) rfl) (by decide)
theorem dX6_readClause_20 : decode cX6_readClause 20 = .ok (.aload_n 0, 1) := dq_42 (hz_wg wX6_readClause_0 (j := 20) (n := 42) rfl)
theorem dX6_readClause_21 : decode cX6_readClause 21 = .ok (.iload_n 1, 1) := dq_27 (hz_wg wX6_readClause_0 (j := 21) (n := 27) rfl)
theorem dX6_readClause_22 : decode cX6_readClause 22 = .ok (.iconst 0, 1) := dq_3 (hz_wg wX6_readClause_0 (j := 22) (n := 3) rfl)
theorem dX6_readClause_23 : decode cX6_readClause 23 = .ok (.invokevirtual 45, 3) := dq_182 (hz_wg wX6_readClause_0 (j := 23) (n := 182) rfl) (hz_wg wX6_readClause_0 (j := 24) (n := 0) rfl) (hz_wg wX6_readClause_0 (j := 25) (n := 45) rfl) rfl
theorem dX6_readClause_26 : decode cX6_readClause 26 = .ok (.ireturn, 1) := dq_172 (hz_wg wX6_readClause_0 (j := 26) (n := 172) rfl)
theorem dX6_readClause_27 : decode cX6_readClause 27 = .ok (.iload_n 2, 1) := dq_28 (hz_wg wX6_readClause_0 (j := 27) (n := 28) rfl)
theorem dX6_readClause_28 : decode cX6_readClause 28 = .ok (.bipush 10, 2) := dq_16 (hz_wg wX6_readClause_0 (j := 28) (n := 16) rfl) (hz_wg wX6_readClause_0 (j := 29) (n := 10) rfl) (by decide)
theorem dX6_readClause_30 : decode cX6_readClause 30 = .ok (.if_icmp .ne 8, 3) := dq_160 (hz_wg wX6_readClause_0 (j := 30) (n := 160) rfl) (hz_wg wX6_readClause_0 (j := 31) (n := 0) rfl) (hz_wg wX6_readClause_0 (j := 32) (n := 8) rfl) (by decide)
theorem dX6_readClause_33 : decode cX6_readClause 33 = .ok (.aload_n 0, 1) := dq_42 (hz_wg wX6_readClause_0 (j := 33) (n := 42) rfl)
theorem dX6_readClause_34 : decode cX6_readClause 34 = .ok (.invokevirtual 55, 3) := dq_182 (hz_wg wX6_readClause_0 (j := 34) (n := 182) rfl) (hz_wg wX6_readClause_0 (j := 35) (n := 0) rfl) (hz_wg wX6_readClause_0 (j := 36) (n := 55) rfl) rfl
theorem dX6_readClause_37 : decode cX6_readClause 37 = .ok (.ireturn, 1) := dq_172 (hz_wg wX6_readClause_0 (j := 37) (n := 172) rfl)
theorem dX6_readClause_38 : decode cX6_readClause 38 = .ok (.iload_n 2, 1) := dq_28 (hz_wg wX6_readClause_0 (j := 38) (n := 28) rfl)
theorem dX6_readClause_39 : decode cX6_readClause 39 = .ok (.bipush 11, 2) := dq_16 (hz_wg wX6_readClause_0 (j := 39) (n := 16) rfl) (hz_wg wX6_readClause_0 (j := 40) (n := 11) rfl) (by decide)
theorem dX6_readClause_41 : decode cX6_readClause 41 = .ok (.if_icmp .ne 35, 3) := dq_160 (hz_wg wX6_readClause_0 (j := 41) (n := 160) rfl) (hz_wg wX6_readClause_0 (j := 42) (n := 0) rfl) (hz_wg wX6_readClause_0 (j := 43) (n := 35) rfl) (by decide)
theorem dX6_readClause_44 : decode cX6_readClause 44 = .ok (.aload_n 0, 1) := dq_42 (hz_wg wX6_readClause_0 (j := 44) (n := 42) rfl)
theorem dX6_readClause_45 : decode cX6_readClause 45 = .ok (.getfield 31, 3) := dq_180 (hz_wg wX6_readClause_0 (j := 45) (n := 180) rfl) (hz_wg wX6_readClause_0 (j := 46) (n := 0) rfl) (hz_wg wX6_readClause_0 (j := 47) (n := 31) rfl) rfl
theorem dX6_readClause_48 : decode cX6_readClause 48 = .ok (.iconst 0, 1) := dq_3 (hz_wg wX6_readClause_0 (j := 48) (n := 3) rfl)
theorem dX6_readClause_49 : decode cX6_readClause 49 = .ok (.putfield 58, 3) := dq_181 (hz_wg wX6_readClause_0 (j := 49) (n := 181) rfl) (hz_wg wX6_readClause_0 (j := 50) (n := 0) rfl) (hz_wg wX6_readClause_0 (j := 51) (n := 58) rfl) rfl
theorem dX6_readClause_52 : decode cX6_readClause 52 = .ok (.aload_n 0, 1) := dq_42 (hz_wg wX6_readClause_0 (j := 52) (n := 42) rfl)
theorem dX6_readClause_53 : decode cX6_readClause 53 = .ok (.bipush 14, 2) := dq_16 (hz_wg wX6_readClause_0 (j := 53) (n := 16) rfl) (hz_wg wX6_readClause_0 (j := 54) (n := 14) rfl) (by decide)
theorem dX6_readClause_55 : decode cX6_readClause 55 = .ok (.iload_n 1, 1) := dq_27 (hz_wg wX6_readClause_0 (j := 55) (n := 27) rfl)
theorem dX6_readClause_56 : decode cX6_readClause 56 = .ok (.invokevirtual 63, 3) := dq_182 (hz_wg wX6_readClause_0 (j := 56) (n := 182) rfl) (hz_wg wX6_readClause_0 (j := 57) (n := 0) rfl) (hz_wg wX6_readClause_0 (j := 58) (n := 63) rfl) rfl
theorem dX6_readClause_59 : decode cX6_readClause 59 = .ok (.ifCond .eq 15, 3) := dq_153 (hz_wg wX6_readClause_0 (j := 59) (n := 153) rfl) (hz_wg wX6_readClause_0 (j := 60) (n := 0) rfl) (hz_wg wX6_readClause_0 (j := 61) (n := 15) rfl) (by decide)
theorem dX6_readClause_62 : decode cX6_readClause 62 = .ok (.aload_n 0, 1) := dq_42 (hz_wg wX6_readClause_0 (j := 62) (n := 42) rfl)
theorem dX6_readClause_63 : decode cX6_readClause 63 = .ok (.iconst 0, 1) := dq_3 (hz_wg wX6_readClause_0 (j := 63) (n := 3) rfl)
theorem dX6_readClause_64 : decode cX6_readClause 64 = .ok (.invokevirtual 66, 3) := dq_182 (hz_wg wX6_readClause_1 (j := 0) (n := 182) rfl) (hz_wg wX6_readClause_1 (j := 1) (n := 0) rfl) (hz_wg wX6_readClause_1 (j := 2) (n := 66) rfl) rfl
theorem dX6_readClause_67 : decode cX6_readClause 67 = .ok (.ifCond .eq 7, 3) := dq_153 (hz_wg wX6_readClause_1 (j := 3) (n := 153) rfl) (hz_wg wX6_readClause_1 (j := 4) (n := 0) rfl) (hz_wg wX6_readClause_1 (j := 5) (n := 7) rfl) (by decide)
theorem dX6_readClause_70 : decode cX6_readClause 70 = .ok (.iconst 1, 1) := dq_4 (hz_wg wX6_readClause_1 (j := 6) (n := 4) rfl)
theorem dX6_readClause_71 : decode cX6_readClause 71 = .ok (.goto 4, 3) := dq_167 (hz_wg wX6_readClause_1 (j := 7) (n := 167) rfl) (hz_wg wX6_readClause_1 (j := 8) (n := 0) rfl) (hz_wg wX6_readClause_1 (j := 9) (n := 4) rfl) (by decide)
theorem dX6_readClause_74 : decode cX6_readClause 74 = .ok (.iconst 0, 1) := dq_3 (hz_wg wX6_readClause_1 (j := 10) (n := 3) rfl)
theorem dX6_readClause_75 : decode cX6_readClause 75 = .ok (.ireturn, 1) := dq_172 (hz_wg wX6_readClause_1 (j := 11) (n := 172) rfl)
theorem dX6_readClause_76 : decode cX6_readClause 76 = .ok (.aload_n 0, 1) := dq_42 (hz_wg wX6_readClause_1 (j := 12) (n := 42) rfl)
theorem dX6_readClause_77 : decode cX6_readClause 77 = .ok (.iload_n 2, 1) := dq_28 (hz_wg wX6_readClause_1 (j := 13) (n := 28) rfl)
theorem dX6_readClause_78 : decode cX6_readClause 78 = .ok (.iload_n 1, 1) := dq_27 (hz_wg wX6_readClause_1 (j := 14) (n := 27) rfl)
theorem dX6_readClause_79 : decode cX6_readClause 79 = .ok (.invokevirtual 63, 3) := dq_182 (hz_wg wX6_readClause_1 (j := 15) (n := 182) rfl) (hz_wg wX6_readClause_1 (j := 16) (n := 0) rfl) (hz_wg wX6_readClause_1 (j := 17) (n := 63) rfl) rfl
theorem dX6_readClause_82 : decode cX6_readClause 82 = .ok (.ifCond .eq 30, 3) := dq_153 (hz_wg wX6_readClause_1 (j := 18) (n := 153) rfl) (hz_wg wX6_readClause_1 (j := 19) (n := 0) rfl) (hz_wg wX6_readClause_1 (j := 20) (n := 30) rfl) (by decide)
theorem dX6_readClause_85 : decode cX6_readClause 85 = .ok (.aload_n 0, 1) := dq_42 (hz_wg wX6_readClause_1 (j := 21) (n := 42) rfl)
theorem dX6_readClause_86 : decode cX6_readClause 86 = .ok (.iload_n 2, 1) := dq_28 (hz_wg wX6_readClause_1 (j := 22) (n := 28) rfl)
theorem dX6_readClause_87 : decode cX6_readClause 87 = .ok (.invokevirtual 70, 3) := dq_182 (hz_wg wX6_readClause_1 (j := 23) (n := 182) rfl) (hz_wg wX6_readClause_1 (j := 24) (n := 0) rfl) (hz_wg wX6_readClause_1 (j := 25) (n := 70) rfl) rfl
theorem dX6_readClause_90 : decode cX6_readClause 90 = .ok (.ifCond .eq 22, 3) := dq_153 (hz_wg wX6_readClause_1 (j := 26) (n := 153) rfl) (hz_wg wX6_readClause_1 (j := 27) (n := 0) rfl) (hz_wg wX6_readClause_1 (j := 28) (n := 22) rfl) (by decide)
theorem dX6_readClause_93 : decode cX6_readClause 93 = .ok (.iload_n 2, 1) := dq_28 (hz_wg wX6_readClause_1 (j := 29) (n := 28) rfl)
theorem dX6_readClause_94 : decode cX6_readClause 94 = .ok (.bipush 6, 2) := dq_16 (hz_wg wX6_readClause_1 (j := 30) (n := 16) rfl) (hz_wg wX6_readClause_1 (j := 31) (n := 6) rfl) (by decide)
theorem dX6_readClause_96 : decode cX6_readClause 96 = .ok (.if_icmp .ne 12, 3) := dq_160 (hz_wg wX6_readClause_1 (j := 32) (n := 160) rfl) (hz_wg wX6_readClause_1 (j := 33) (n := 0) rfl) (hz_wg wX6_readClause_1 (j := 34) (n := 12) rfl) (by decide)
theorem dX6_readClause_99 : decode cX6_readClause 99 = .ok (.aload_n 0, 1) := dq_42 (hz_wg wX6_readClause_1 (j := 35) (n := 42) rfl)
theorem dX6_readClause_100 : decode cX6_readClause 100 = .ok (.bipush 7, 2) := dq_16 (hz_wg wX6_readClause_1 (j := 36) (n := 16) rfl) (hz_wg wX6_readClause_1 (j := 37) (n := 7) rfl) (by decide)
theorem dX6_readClause_102 : decode cX6_readClause 102 = .ok (.invokevirtual 70, 3) := dq_182 (hz_wg wX6_readClause_1 (j := 38) (n := 182) rfl) (hz_wg wX6_readClause_1 (j := 39) (n := 0) rfl) (hz_wg wX6_readClause_1 (j := 40) (n := 70) rfl) rfl
theorem dX6_readClause_105 : decode cX6_readClause 105 = .ok (.ifCond .eq 7, 3) := dq_153 (hz_wg wX6_readClause_1 (j := 41) (n := 153) rfl) (hz_wg wX6_readClause_1 (j := 42) (n := 0) rfl) (hz_wg wX6_readClause_1 (j := 43) (n := 7) rfl) (by decide)
theorem dX6_readClause_108 : decode cX6_readClause 108 = .ok (.iconst 1, 1) := dq_4 (hz_wg wX6_readClause_1 (j := 44) (n := 4) rfl)
theorem dX6_readClause_109 : decode cX6_readClause 109 = .ok (.goto 4, 3) := dq_167 (hz_wg wX6_readClause_1 (j := 45) (n := 167) rfl) (hz_wg wX6_readClause_1 (j := 46) (n := 0) rfl) (hz_wg wX6_readClause_1 (j := 47) (n := 4) rfl) (by decide)
theorem dX6_readClause_112 : decode cX6_readClause 112 = .ok (.iconst 0, 1) := dq_3 (hz_wg wX6_readClause_1 (j := 48) (n := 3) rfl)
theorem dX6_readClause_113 : decode cX6_readClause 113 = .ok (.ireturn, 1) := dq_172 (hz_wg wX6_readClause_1 (j := 49) (n := 172) rfl)
def wLX6_isAnotherClause_0 : List Nat := [42, 182, 0, 35, 42, 180, 0, 19, 42, 180, 0, 15, 161, 0, 5, 3, 172, 42, 180, 0, 9, 42, 180, 0, 19, 51, 16, 59, 159, 0, 13, 42, 42, 180, 0, 19, 3, 182, 0, 45, 172, 42, 89, 180, 0, 19, 4, 96, 181, 0, 19, 4, 172]
theorem wX6_isAnotherClause_0 : (cX6_isAnotherClause.data.toList.map UInt8.toNat).drop 0 = wLX6_isAnotherClause_0 ++ ([]) := by decide +kernel
theorem dX6_isAnotherClause_0 : decode cX6_isAnotherClause 0 = .ok (.aload_n 0, 1) := dq_42 (hz_wg wX6_isAnotherClause_0 (j := 0) (n := 42) rfl)
theorem dX6_isAnotherClause_1 : decode cX6_isAnotherClause 1 = .ok (.invokevirtual 35, 3) := dq_182 (hz_wg wX6_isAnotherClause_0 (j := 1) (n := 182) rfl) (hz_wg wX6_isAnotherClause_0 (j := 2) (n := 0) rfl) (hz_wg wX6_isAnotherClause_0 (j := 3) (n := 35) rfl) rfl
theorem dX6_isAnotherClause_4 : decode cX6_isAnotherClause 4 = .ok (.aload_n 0, 1) := dq_42 (hz_wg wX6_isAnotherClause_0 (j := 4) (n := 42) rfl)
theorem dX6_isAnotherClause_5 : decode cX6_isAnotherClause 5 = .ok (.getfield 19, 3) := dq_180 (hz_wg wX6_isAnotherClause_0 (j := 5) (n := 180) rfl) (hz_wg wX6_isAnotherClause_0 (j := 6) (n := 0) rfl) (hz_wg wX6_isAnotherClause_0 (j := 7) (n := 19) rfl) rfl
theorem dX6_isAnotherClause_8 : decode cX6_isAnotherClause 8 = .ok (.aload_n 0, 1) := dq_42 (hz_wg wX6_isAnotherClause_0 (j := 8) (n := 42) rfl)
theorem dX6_isAnotherClause_9 : decode cX6_isAnotherClause 9 = .ok (.getfield 15, 3) := dq_180 (hz_wg wX6_isAnotherClause_0 (j := 9) (n := 180) rfl) (hz_wg wX6_isAnotherClause_0 (j := 10) (n := 0) rfl) (hz_wg wX6_isAnotherClause_0 (j := 11) (n := 15) rfl) rfl
theorem dX6_isAnotherClause_12 : decode cX6_isAnotherClause 12 = .ok (.if_icmp .lt 5, 3) := dq_161 (hz_wg wX6_isAnotherClause_0 (j := 12) (n := 161) rfl) (hz_wg wX6_isAnotherClause_0 (j := 13) (n := 0) rfl) (hz_wg wX6_isAnotherClause_0 (j := 14) (n := 5) rfl) (by decide)
theorem dX6_isAnotherClause_15 : decode cX6_isAnotherClause 15 = .ok (.iconst 0, 1) := dq_3 (hz_wg wX6_isAnotherClause_0 (j := 15) (n := 3) rfl)
theorem dX6_isAnotherClause_16 : decode cX6_isAnotherClause 16 = .ok (.ireturn, 1) := dq_172 (hz_wg wX6_isAnotherClause_0 (j := 16) (n := 172) rfl)
theorem dX6_isAnotherClause_17 : decode cX6_isAnotherClause 17 = .ok (.aload_n 0, 1) := dq_42 (hz_wg wX6_isAnotherClause_0 (j := 17) (n := 42) rfl)
theorem dX6_isAnotherClause_18 : decode cX6_isAnotherClause 18 = .ok (.getfield 9, 3) := dq_180 (hz_wg wX6_isAnotherClause_0 (j := 18) (n := 180) rfl) (hz_wg wX6_isAnotherClause_0 (j := 19) (n := 0) rfl) (hz_wg wX6_isAnotherClause_0 (j := 20) (n := 9) rfl) rfl
theorem dX6_isAnotherClause_21 : decode cX6_isAnotherClause 21 = .ok (.aload_n 0, 1) := dq_42 (hz_wg wX6_isAnotherClause_0 (j := 21) (n := 42) rfl)
theorem dX6_isAnotherClause_22 : decode cX6_isAnotherClause 22 = .ok (.getfield 19, 3) := dq_180 (hz_wg wX6_isAnotherClause_0 (j := 22) (n := 180) rfl) (hz_wg wX6_isAnotherClause_0 (j := 23) (n := 0) rfl) (hz_wg wX6_isAnotherClause_0 (j := 24) (n := 19) rfl) rfl
theorem dX6_isAnotherClause_25 : decode cX6_isAnotherClause 25 = .ok (.baload, 1) := dq_51 (hz_wg wX6_isAnotherClause_0 (j := 25) (n := 51) rfl)
theorem dX6_isAnotherClause_26 : decode cX6_isAnotherClause 26 = .ok (.bipush 59, 2) := dq_16 (hz_wg wX6_isAnotherClause_0 (j := 26) (n := 16) rfl) (hz_wg wX6_isAnotherClause_0 (j := 27) (n := 59) rfl) (by decide)
theorem dX6_isAnotherClause_28 : decode cX6_isAnotherClause 28 = .ok (.if_icmp .eq 13, 3) := dq_159 (hz_wg wX6_isAnotherClause_0 (j := 28) (n := 159) rfl) (hz_wg wX6_isAnotherClause_0 (j := 29) (n := 0) rfl) (hz_wg wX6_isAnotherClause_0 (j := 30) (n := 13) rfl) (by decide)
theorem dX6_isAnotherClause_31 : decode cX6_isAnotherClause 31 = .ok (.aload_n 0, 1) := dq_42 (hz_wg wX6_isAnotherClause_0 (j := 31) (n := 42) rfl)
theorem dX6_isAnotherClause_32 : decode cX6_isAnotherClause 32 = .ok (.aload_n 0, 1) := dq_42 (hz_wg wX6_isAnotherClause_0 (j := 32) (n := 42) rfl)
theorem dX6_isAnotherClause_33 : decode cX6_isAnotherClause 33 = .ok (.getfield 19, 3) := dq_180 (hz_wg wX6_isAnotherClause_0 (j := 33) (n := 180) rfl) (hz_wg wX6_isAnotherClause_0 (j := 34) (n := 0) rfl) (hz_wg wX6_isAnotherClause_0 (j := 35) (n := 19) rfl) rfl
theorem dX6_isAnotherClause_36 : decode cX6_isAnotherClause 36 = .ok (.iconst 0, 1) := dq_3 (hz_wg wX6_isAnotherClause_0 (j := 36) (n := 3) rfl)
theorem dX6_isAnotherClause_37 : decode cX6_isAnotherClause 37 = .ok (.invokevirtual 45, 3) := dq_182 (hz_wg wX6_isAnotherClause_0 (j := 37) (n := 182) rfl) (hz_wg wX6_isAnotherClause_0 (j := 38) (n := 0) rfl) (hz_wg wX6_isAnotherClause_0 (j := 39) (n := 45) rfl) rfl
theorem dX6_isAnotherClause_40 : decode cX6_isAnotherClause 40 = .ok (.ireturn, 1) := dq_172 (hz_wg wX6_isAnotherClause_0 (j := 40) (n := 172) rfl)
theorem dX6_isAnotherClause_41 : decode cX6_isAnotherClause 41 = .ok (.aload_n 0, 1) := dq_42 (hz_wg wX6_isAnotherClause_0 (j := 41) (n := 42) rfl)
theorem dX6_isAnotherClause_42 : decode cX6_isAnotherClause 42 = .ok (.dup, 1) := dq_89 (hz_wg wX6_isAnotherClause_0 (j := 42) (n := 89) rfl)
theorem dX6_isAnotherClause_43 : decode cX6_isAnotherClause 43 = .ok (.getfield 19, 3) := dq_180 (hz_wg wX6_isAnotherClause_0 (j := 43) (n := 180) rfl) (hz_wg wX6_isAnotherClause_0 (j := 44) (n := 0) rfl) (hz_wg wX6_isAnotherClause_0 (j := 45) (n := 19) rfl) rfl
theorem dX6_isAnotherClause_46 : decode cX6_isAnotherClause 46 = .ok (.iconst 1, 1) := dq_4 (hz_wg wX6_isAnotherClause_0 (j := 46) (n := 4) rfl)
theorem dX6_isAnotherClause_47 : decode cX6_isAnotherClause 47 = .ok (.iadd, 1) := dq_96 (hz_wg wX6_isAnotherClause_0 (j := 47) (n := 96) rfl)
theorem dX6_isAnotherClause_48 : decode cX6_isAnotherClause 48 = .ok (.putfield 19, 3) := dq_181 (hz_wg wX6_isAnotherClause_0 (j := 48) (n := 181) rfl) (hz_wg wX6_isAnotherClause_0 (j := 49) (n := 0) rfl) (hz_wg wX6_isAnotherClause_0 (j := 50) (n := 19) rfl) rfl
theorem dX6_isAnotherClause_51 : decode cX6_isAnotherClause 51 = .ok (.iconst 1, 1) := dq_4 (hz_wg wX6_isAnotherClause_0 (j := 51) (n := 4) rfl)
theorem dX6_isAnotherClause_52 : decode cX6_isAnotherClause 52 = .ok (.ireturn, 1) := dq_172 (hz_wg wX6_isAnotherClause_0 (j := 52) (n := 172) rfl)
def wLX6_readAct_0 : List Nat := [42, 43, 181, 0, 9, 42, 28, 155, 0, 9, 28, 43, 190, 164, 0, 7, 3, 167, 0, 4, 28, 181, 0, 15, 42, 3, 181, 0, 19, 42, 3, 181, 0, 22, 42, 3, 181, 0, 25, 42, 3, 181, 0, 28, 42, 45, 181, 0, 31, 42, 182, 0, 35, 42, 180, 0, 19, 42, 180, 0, 15, 162, 0, 7]
def wLX6_readAct_1 : List Nat := [4, 167, 0, 4, 3, 54, 4, 3, 54, 5, 21, 5, 42, 180, 0, 15, 163, 0, 35, 21, 4, 153, 0, 30, 42, 182, 0, 38, 153, 0, 14, 42, 182, 0, 42, 153, 0, 7, 4, 167, 0, 4, 3, 54, 4, 132, 5, 1, 167, 255, 218, 42, 180, 0, 22, 172]
theorem wX6_readAct_0 : (cX6_readAct.data.toList.map UInt8.toNat).drop 0 = wLX6_readAct_0 ++ (wLX6_readAct_1 ++ ([])) := by decide +kernel
theorem wX6_readAct_1 : (cX6_readAct.data.toList.map UInt8.toNat).drop 64 = wLX6_readAct_1 ++ ([]) := hz_wn wX6_readAct_0 rfl
theorem dX6_readAct_0 : decode cX6_readAct 0 = .ok (.aload_n 0, 1) := dq_42 (hz_wg wX6_readAct_0 (j := 0) (n := 42) rfl)
theorem dX6_readAct_1 : decode cX6_readAct 1 = .ok (.aload_n 1, 1) := dq_43 (hz_wg wX6_readAct_0 (j := 1) (n := 43) rfl)
theorem dX6_readAct_2 : decode cX6_readAct 2 = .ok (.putfield 9, 3) := dq_181 (hz_wg wX6_readAct_0 (j := 2) (n := 181) rfl) (hz_wg wX6_readAct_0 (j := 3) (n := 0) rfl) (hz_wg wX6_readAct_0 (j := 4) (n := 9) rfl) rfl
theorem dX6_readAct_5 : decode cX6_readAct 5 = .ok (.aload_n 0, 1) := dq_42 (hz_wg wX6_readAct_0 (j := 5) (n := 42) rfl)
theorem dX6_readAct_6 : decode cX6_readAct 6 = .ok (.iload_n 2, 1) := dq_28 (hz_wg wX6_readAct_0 (j := 6) (n := 28) rfl)
theorem dX6_readAct_7 : decode cX6_readAct 7 = .ok (.ifCond .lt 9, 3) := dq_155 (hz_wg wX6_readAct_0 (j := 7) (n := 155) rfl) (hz_wg wX6_readAct_0 (j := 8) (n := 0) rfl) (hz_wg wX6_readAct_0 (j := 9) (n := 9) rfl) (by decide)
theorem dX6_readAct_10 : decode cX6_readAct 10 = .ok (.iload_n 2, 1) := dq_28 (hz_wg wX6_readAct_0 (j := 10) (n := 28) rfl)
theorem dX6_readAct_11 : decode cX6_readAct 11 = .ok (.aload_n 1, 1) := dq_43 (hz_wg wX6_readAct_0 (j := 11) (n := 43) rfl)
theorem dX6_readAct_12 : decode cX6_readAct 12 = .ok (.arraylength, 1) := dq_190 (hz_wg wX6_readAct_0 (j := 12) (n := 190) rfl)
theorem dX6_readAct_13 : decode cX6_readAct 13 = .ok (.if_icmp .le 7, 3) := dq_164 (hz_wg wX6_readAct_0 (j := 13) (n := 164) rfl) (hz_wg wX6_readAct_0 (j := 14) (n := 0) rfl) (hz_wg wX6_readAct_0 (j := 15) (n := 7) rfl) (by decide)
theorem dX6_readAct_20 : decode cX6_readAct 20 = .ok (.iload_n 2, 1) := dq_28 (hz_wg wX6_readAct_0 (j := 20) (n := 28) rfl)
theorem dX6_readAct_21 : decode cX6_readAct 21 = .ok (.putfield 15, 3) := dq_181 (hz_wg wX6_readAct_0 (j := 21) (n := 181) rfl) (hz_wg wX6_readAct_0 (j := 22) (n := 0) rfl) (hz_wg wX6_readAct_0 (j := 23) (n := 15) rfl) rfl
theorem dX6_readAct_24 : decode cX6_readAct 24 = .ok (.aload_n 0, 1) := dq_42 (hz_wg wX6_readAct_0 (j := 24) (n := 42) rfl)
theorem dX6_readAct_25 : decode cX6_readAct 25 = .ok (.iconst 0, 1) := dq_3 (hz_wg wX6_readAct_0 (j := 25) (n := 3) rfl)
theorem dX6_readAct_26 : decode cX6_readAct 26 = .ok (.putfield 19, 3) := dq_181 (hz_wg wX6_readAct_0 (j := 26) (n := 181) rfl) (hz_wg wX6_readAct_0 (j := 27) (n := 0) rfl) (hz_wg wX6_readAct_0 (j := 28) (n := 19) rfl) rfl
theorem dX6_readAct_29 : decode cX6_readAct 29 = .ok (.aload_n 0, 1) := dq_42 (hz_wg wX6_readAct_0 (j := 29) (n := 42) rfl)
theorem dX6_readAct_30 : decode cX6_readAct 30 = .ok (.iconst 0, 1) := dq_3 (hz_wg wX6_readAct_0 (j := 30) (n := 3) rfl)
theorem dX6_readAct_31 : decode cX6_readAct 31 = .ok (.putfield 22, 3) := dq_181 (hz_wg wX6_readAct_0 (j := 31) (n := 181) rfl) (hz_wg wX6_readAct_0 (j := 32) (n := 0) rfl) (hz_wg wX6_readAct_0 (j := 33) (n := 22) rfl) rfl
theorem dX6_readAct_34 : decode cX6_readAct 34 = .ok (.aload_n 0, 1) := dq_42 (hz_wg wX6_readAct_0 (j := 34) (n := 42) rfl)
theorem dX6_readAct_35 : decode cX6_readAct 35 = .ok (.iconst 0, 1) := dq_3 (hz_wg wX6_readAct_0 (j := 35) (n := 3) rfl)
theorem dX6_readAct_36 : decode cX6_readAct 36 = .ok (.putfield 25, 3) := dq_181 (hz_wg wX6_readAct_0 (j := 36) (n := 181) rfl) (hz_wg wX6_readAct_0 (j := 37) (n := 0) rfl) (hz_wg wX6_readAct_0 (j := 38) (n := 25) rfl) rfl
theorem dX6_readAct_39 : decode cX6_readAct 39 = .ok (.aload_n 0, 1) := dq_42 (hz_wg wX6_readAct_0 (j := 39) (n := 42) rfl)
theorem dX6_readAct_40 : decode cX6_readAct 40 = .ok (.iconst 0, 1) := dq_3 (hz_wg wX6_readAct_0 (j := 40) (n := 3) rfl)
theorem dX6_readAct_41 : decode cX6_readAct 41 = .ok (.putfield 28, 3) := dq_181 (hz_wg wX6_readAct_0 (j := 41) (n := 181) rfl) (hz_wg wX6_readAct_0 (j := 42) (n := 0) rfl) (hz_wg wX6_readAct_0 (j := 43) (n := 28) rfl) rfl
theorem dX6_readAct_44 : decode cX6_readAct 44 = .ok (.aload_n 0, 1) := dq_42 (hz_wg wX6_readAct_0 (j := 44) (n := 42) rfl)
theorem dX6_readAct_45 : decode cX6_readAct 45 = .ok (.aload_n 3, 1) := dq_45 (hz_wg wX6_readAct_0 (j := 45) (n := 45) rfl)
theorem dX6_readAct_46 : decode cX6_readAct 46 = .ok (.putfield 31, 3) := dq_181 (hz_wg wX6_readAct_0 (j := 46) (n := 181) rfl) (hz_wg wX6_readAct_0 (j := 47) (n := 0) rfl) (hz_wg wX6_readAct_0 (j := 48) (n := 31) rfl) rfl
theorem dX6_readAct_49 : decode cX6_readAct 49 = .ok (.aload_n 0, 1) := dq_42 (hz_wg wX6_readAct_0 (j := 49) (n := 42) rfl)
theorem dX6_readAct_50 : decode cX6_readAct 50 = .ok (.invokevirtual 35, 3) := dq_182 (hz_wg wX6_readAct_0 (j := 50) (n := 182) rfl) (hz_wg wX6_readAct_0 (j := 51) (n := 0) rfl) (hz_wg wX6_readAct_0 (j := 52) (n := 35) rfl) rfl
theorem dX6_readAct_53 : decode cX6_readAct 53 = .ok (.aload_n 0, 1) := dq_42 (hz_wg wX6_readAct_0 (j := 53) (n := 42) rfl)
theorem dX6_readAct_54 : decode cX6_readAct 54 = .ok (.getfield 19, 3) := dq_180 (hz_wg wX6_readAct_0 (j := 54) (n := 180) rfl) (hz_wg wX6_readAct_0 (j := 55) (n := 0) rfl) (hz_wg wX6_readAct_0 (j := 56) (n := 19) rfl) rfl
theorem dX6_readAct_57 : decode cX6_readAct 57 = .ok (.aload_n 0, 1) := dq_42 (hz_wg wX6_readAct_0 (j := 57) (n := 42) rfl)
theorem dX6_readAct_58 : decode cX6_readAct 58 = .ok (.getfield 15, 3) := dq_180 (hz_wg wX6_readAct_0 (j := 58) (n := 180) rfl) (hz_wg wX6_readAct_0 (j := 59) (n := 0) rfl) (hz_wg wX6_readAct_0 (j := 60) (n := 15) rfl) rfl
theorem dX6_readAct_61 : decode cX6_readAct 61 = .ok (.if_icmp .ge 7, 3) := dq_162 (hz_wg wX6_readAct_0 (j := 61) (n := 162) rfl) (hz_wg wX6_readAct_0 (j := 62) (n := 0) rfl) (hz_wg wX6_readAct_0 (j := 63) (n := 7) rfl) (by decide)
theorem dX6_readAct_64 : decode cX6_readAct 64 = .ok (.iconst 1, 1) := dq_4 (hz_wg wX6_readAct_1 (j := 0) (n := 4) rfl)
theorem dX6_readAct_65 : decode cX6_readAct 65 = .ok (.goto 4, 3) := dq_167 (hz_wg wX6_readAct_1 (j := 1) (n := 167) rfl) (hz_wg wX6_readAct_1 (j := 2) (n := 0) rfl) (hz_wg wX6_readAct_1 (j := 3) (n := 4) rfl) (by decide)
theorem dX6_readAct_68 : decode cX6_readAct 68 = .ok (.iconst 0, 1) := dq_3 (hz_wg wX6_readAct_1 (j := 4) (n := 3) rfl)
theorem dX6_readAct_69 : decode cX6_readAct 69 = .ok (.istore 4, 2) := dq_54 (hz_wg wX6_readAct_1 (j := 5) (n := 54) rfl) (hz_wg wX6_readAct_1 (j := 6) (n := 4) rfl)
theorem dX6_readAct_71 : decode cX6_readAct 71 = .ok (.iconst 0, 1) := dq_3 (hz_wg wX6_readAct_1 (j := 7) (n := 3) rfl)
theorem dX6_readAct_72 : decode cX6_readAct 72 = .ok (.istore 5, 2) := dq_54 (hz_wg wX6_readAct_1 (j := 8) (n := 54) rfl) (hz_wg wX6_readAct_1 (j := 9) (n := 5) rfl)
theorem dX6_readAct_74 : decode cX6_readAct 74 = .ok (.iload 5, 2) := dq_21 (hz_wg wX6_readAct_1 (j := 10) (n := 21) rfl) (hz_wg wX6_readAct_1 (j := 11) (n := 5) rfl)
theorem dX6_readAct_76 : decode cX6_readAct 76 = .ok (.aload_n 0, 1) := dq_42 (hz_wg wX6_readAct_1 (j := 12) (n := 42) rfl)
theorem dX6_readAct_77 : decode cX6_readAct 77 = .ok (.getfield 15, 3) := dq_180 (hz_wg wX6_readAct_1 (j := 13) (n := 180) rfl) (hz_wg wX6_readAct_1 (j := 14) (n := 0) rfl) (hz_wg wX6_readAct_1 (j := 15) (n := 15) rfl) rfl
theorem dX6_readAct_80 : decode cX6_readAct 80 = .ok (.if_icmp .gt 35, 3) := dq_163 (hz_wg wX6_readAct_1 (j := 16) (n := 163) rfl) (hz_wg wX6_readAct_1 (j := 17) (n := 0) rfl) (hz_wg wX6_readAct_1 (j := 18) (n := 35) rfl) (by decide)
theorem dX6_readAct_83 : decode cX6_readAct 83 = .ok (.iload 4, 2) := dq_21 (hz_wg wX6_readAct_1 (j := 19) (n := 21) rfl) (hz_wg wX6_readAct_1 (j := 20) (n := 4) rfl)
theorem dX6_readAct_85 : decode cX6_readAct 85 = .ok (.ifCond .eq 30, 3) := dq_153 (hz_wg wX6_readAct_1 (j := 21) (n := 153) rfl) (hz_wg wX6_readAct_1 (j := 22) (n := 0) rfl) (hz_wg wX6_readAct_1 (j := 23) (n := 30) rfl) (by decide)
theorem dX6_readAct_88 : decode cX6_readAct 88 = .ok (.aload_n 0, 1) := dq_42 (hz_wg wX6_readAct_1 (j := 24) (n := 42) rfl)
theorem dX6_readAct_89 : decode cX6_readAct 89 = .ok (.invokevirtual 38, 3) := dq_182 (hz_wg wX6_readAct_1 (j := 25) (n := 182) rfl) (hz_wg wX6_readAct_1 (j := 26) (n := 0) rfl) (hz_wg wX6_readAct_1 (j := 27) (n := 38) rfl) rfl
theorem dX6_readAct_92 : decode cX6_readAct 92 = .ok (.ifCond .eq 14, 3) := dq_153 (hz_wg wX6_readAct_1 (j := 28) (n := 153) rfl) (hz_wg wX6_readAct_1 (j := 29) (n := 0) rfl) (hz_wg wX6_readAct_1 (j := 30) (n := 14) rfl) (by decide)
theorem dX6_readAct_95 : decode cX6_readAct 95 = .ok (.aload_n 0, 1) := dq_42 (hz_wg wX6_readAct_1 (j := 31) (n := 42) rfl)
theorem dX6_readAct_96 : decode cX6_readAct 96 = .ok (.invokevirtual 42, 3) := dq_182 (hz_wg wX6_readAct_1 (j := 32) (n := 182) rfl) (hz_wg wX6_readAct_1 (j := 33) (n := 0) rfl) (hz_wg wX6_readAct_1 (j := 34) (n := 42) rfl) rfl
theorem dX6_readAct_99 : decode cX6_readAct 99 = .ok (.ifCond .eq 7, 3) := dq_153 (hz_wg wX6_readAct_1 (j := 35) (n := 153) rfl) (hz_wg wX6_readAct_1 (j := 36) (n := 0) rfl) (hz_wg wX6_readAct_1 (j := 37) (n := 7) rfl) (by decide)
theorem dX6_readAct_102 : decode cX6_readAct 102 = .ok (.iconst 1, 1) := dq_4 (hz_wg wX6_readAct_1 (j := 38) (n := 4) rfl)
theorem dX6_readAct_103 : decode cX6_readAct 103 = .ok (.goto 4, 3) := dq_167 (hz_wg wX6_readAct_1 (j := 39) (n := 167) rfl) (hz_wg wX6_readAct_1 (j := 40) (n := 0) rfl) (hz_wg wX6_readAct_1 (j := 41) (n := 4) rfl) (by decide)
theorem dX6_readAct_106 : decode cX6_readAct 106 = .ok (.iconst 0, 1) := dq_3 (hz_wg wX6_readAct_1 (j := 42) (n := 3) rfl)
theorem dX6_readAct_107 : decode cX6_readAct 107 = .ok (.istore 4, 2) := dq_54 (hz_wg wX6_readAct_1 (j := 43) (n := 54) rfl) (hz_wg wX6_readAct_1 (j := 44) (n := 4) rfl)
theorem dX6_readAct_109 : decode cX6_readAct 109 = .ok (.iinc 5 1, 3) := dq_132 (hz_wg wX6_readAct_1 (j := 45) (n := 132) rfl) (hz_wg wX6_readAct_1 (j := 46) (n := 5) rfl) (hz_wg wX6_readAct_1 (j := 47) (n := 1) rfl) (by decide)
theorem dX6_readAct_112 : decode cX6_readAct 112 = .ok (.goto (-38), 3) := dq_167 (hz_wg wX6_readAct_1 (j := 48) (n := 167) rfl) (hz_wg wX6_readAct_1 (j := 49) (n := 255) rfl) (hz_wg wX6_readAct_1 (j := 50) (n := 218) rfl) (by decide)
theorem dX6_readAct_115 : decode cX6_readAct 115 = .ok (.aload_n 0, 1) := dq_42 (hz_wg wX6_readAct_1 (j := 51) (n := 42) rfl)
theorem dX6_readAct_116 : decode cX6_readAct 116 = .ok (.getfield 22, 3) := dq_180 (hz_wg wX6_readAct_1 (j := 52) (n := 180) rfl) (hz_wg wX6_readAct_1 (j := 53) (n := 0) rfl) (hz_wg wX6_readAct_1 (j := 54) (n := 22) rfl) rfl
theorem dX6_readAct_119 : decode cX6_readAct 119 = .ok (.ireturn, 1) := dq_172 (hz_wg wX6_readAct_1 (j := 55) (n := 172) rfl)