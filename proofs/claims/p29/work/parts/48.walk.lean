def wLX10_list_0 : List Nat := [42, 27, 182, 1, 114, 153, 0, 32, 42, 180, 0, 108, 27, 46, 2, 160, 0, 22, 42, 180, 0, 111, 27, 46, 2, 160, 0, 12, 42, 180, 1, 212, 16, 8, 160, 0, 5, 2, 172, 3, 61, 28, 42, 180, 1, 212, 162, 0, 21, 42, 180, 0, 201, 28, 46, 27, 160, 0, 5, 2, 172, 132, 2, 1]
def wLX10_list_1 : List Nat := [167, 255, 233, 42, 180, 1, 212, 61, 28, 158, 0, 35, 42, 180, 0, 201, 28, 4, 100, 46, 27, 164, 0, 23, 42, 180, 0, 201, 28, 42, 180, 0, 201, 28, 4, 100, 46, 79, 132, 2, 255, 167, 255, 223, 42, 180, 0, 201, 28, 27, 79, 42, 89, 180, 1, 212, 4, 96, 181, 1, 212, 42, 180, 1]
def wLX10_list_2 : List Nat := [212, 172]
theorem wX10_list_0 : (cX10_list.data.toList.map UInt8.toNat).drop 0 = wLX10_list_0 ++ (wLX10_list_1 ++ (wLX10_list_2 ++ ([]))) := by decide +kernel
theorem wX10_list_1 : (cX10_list.data.toList.map UInt8.toNat).drop 64 = wLX10_list_1 ++ (wLX10_list_2 ++ ([])) := hz_wn wX10_list_0 rfl
theorem wX10_list_2 : (cX10_list.data.toList.map UInt8.toNat).drop 128 = wLX10_list_2 ++ ([]) := hz_wn wX10_list_1 rfl
theorem dX10_list_0 : decode cX10_list 0 = .ok (.aload_n 0, 1) := dq_42 (hz_wg wX10_list_0 (j := 0) (n := 42) rfl)
theorem dX10_list_1 : decode cX10_list 1 = .ok (.iload_n 1, 1) := dq_27 (hz_wg wX10_list_0 (j := 1) (n := 27) rfl)
theorem dX10_list_2 : decode cX10_list 2 = .ok (.invokevirtual 370, 3) := dq_182 (hz_wg wX10_list_0 (j := 2) (n := 182) rfl) (hz_wg wX10_list_0 (j := 3) (n := 1) rfl) (hz_wg wX10_list_0 (j := 4) (n := 114) rfl) rfl
theorem dX10_list_5 : decode cX10_list 5 = .ok (.ifCond .eq 32, 3) := dq_153 (hz_wg wX10_list_0 (j := 5) (n := 153) rfl) (hz_wg wX10_list_0 (j := 6) (n := 0) rfl) (hz_wg wX10_list_0 (j := 7) (n := 32) rfl) (by decide)
theorem dX10_list_8 : decode cX10_list 8 = .ok (.aload_n 0, 1) := dq_42 (hz_wg wX10_list_0 (j := 8) (n := 42) rfl)
theorem dX10_list_9 : decode cX10_list 9 = .ok (.getfield 108, 3) := dq_180 (hz_wg wX10_list_0 (j := 9) (n := 180) rfl) (hz_wg wX10_list_0 (j := 10) (n := 0) rfl) (hz_wg wX10_list_0 (j := 11) (n := 108) rfl) rfl
theorem dX10_list_12 : decode cX10_list 12 = .ok (.iload_n 1, 1) := dq_27 (hz_wg wX10_list_0 (j := 12) (n := 27) rfl)
theorem dX10_list_13 : decode cX10_list 13 = .ok (.iaload, 1) := dq_46 (hz_wg wX10_list_0 (j := 13) (n := 46) rfl)
theorem dX10_list_14 : decode cX10_list 14 = .ok (.iconst (-1), 1) := dq_2 (hz_wg wX10_list_0 (j := 14) (n := 2) rfl)
theorem dX10_list_15 : decode cX10_list 15 = .ok (.if_icmp .ne 22, 3) := dq_160 (hz_wg wX10_list_0 (j := 15) (n := 160) rfl) (hz_wg wX10_list_0 (j := 16) (n := 0) rfl) (hz_wg wX10_list_0 (j := 17) (n := 22) rfl) (by decide)
theorem dX10_list_18 : decode cX10_list 18 = .ok (.aload_n 0, 1) := dq_42 (hz_wg wX10_list_0 (j := 18) (n := 42) rfl)
theorem dX10_list_19 : decode cX10_list 19 = .ok (.getfield 111, 3) := dq_180 (hz_wg wX10_list_0 (j := 19) (n := 180) rfl) (hz_wg wX10_list_0 (j := 20) (n := 0) rfl) (hz_wg wX10_list_0 (j := 21) (n := 111) rfl) rfl
theorem dX10_list_22 : decode cX10_list 22 = .ok (.iload_n 1, 1) := dq_27 (hz_wg wX10_list_0 (j := 22) (n := 27) rfl)
theorem dX10_list_23 : decode cX10_list 23 = .ok (.iaload, 1) := dq_46 (hz_wg wX10_list_0 (j := 23) (n := 46) rfl)
theorem dX10_list_24 : decode cX10_list 24 = .ok (.iconst (-1), 1) := dq_2 (hz_wg wX10_list_0 (j := 24) (n := 2) rfl)
theorem dX10_list_25 : decode cX10_list 25 = .ok (.if_icmp .ne 12, 3) := dq_160 (hz_wg wX10_list_0 (j := 25) (n := 160) rfl) (hz_wg wX10_list_0 (j := 26) (n := 0) rfl) (hz_wg wX10_list_0 (j := 27) (n := 12) rfl) (by decide)
theorem dX10_list_28 : decode cX10_list 28 = .ok (.aload_n 0, 1) := dq_42 (hz_wg wX10_list_0 (j := 28) (n := 42) rfl)
theorem dX10_list_29 : decode cX10_list 29 = .ok (.getfield 468, 3) := dq_180 (hz_wg wX10_list_0 (j := 29) (n := 180) rfl) (hz_wg wX10_list_0 (j := 30) (n := 1) rfl) (hz_wg wX10_list_0 (j := 31) (n := 212) rfl) rfl
theorem dX10_list_32 : decode cX10_list 32 = .ok (.bipush 8, 2) := dq_16 (hz_wg wX10_list_0 (j := 32) (n := 16) rfl) (hz_wg wX10_list_0 (j := 33) (n := 8) rfl) (by decide)
theorem dX10_list_34 : decode cX10_list 34 = .ok (.if_icmp .ne 5, 3) := dq_160 (hz_wg wX10_list_0 (j := 34) (n := 160) rfl) (hz_wg wX10_list_0 (j := 35) (n := 0) rfl) (hz_wg wX10_list_0 (j := 36) (n := 5) rfl) (by decide)
theorem dX10_list_37 : decode cX10_list 37 = .ok (.iconst (-1), 1) := dq_2 (hz_wg wX10_list_0 (j := 37) (n := 2) rfl)
theorem dX10_list_38 : decode cX10_list 38 = .ok (.ireturn, 1) := dq_172 (hz_wg wX10_list_0 (j := 38) (n := 172) rfl)
theorem dX10_list_39 : decode cX10_list 39 = .ok (.iconst 0, 1) := dq_3 (hz_wg wX10_list_0 (j := 39) (n := 3) rfl)
theorem dX10_list_40 : decode cX10_list 40 = .ok (.istore_n 2, 1) := dq_61 (hz_wg wX10_list_0 (j := 40) (n := 61) rfl)
theorem dX10_list_41 : decode cX10_list 41 = .ok (.iload_n 2, 1) := dq_28 (hz_wg wX10_list_0 (j := 41) (n := 28) rfl)
theorem dX10_list_42 : decode cX10_list 42 = .ok (.aload_n 0, 1) := dq_42 (hz_wg wX10_list_0 (j := 42) (n := 42) rfl)
theorem dX10_list_43 : decode cX10_list 43 = .ok (.getfield 468, 3) := dq_180 (hz_wg wX10_list_0 (j := 43) (n := 180) rfl) (hz_wg wX10_list_0 (j := 44) (n := 1) rfl) (hz_wg wX10_list_0 (j := 45) (n := 212) rfl) rfl
theorem dX10_list_46 : decode cX10_list 46 = .ok (.if_icmp .ge 21, 3) := dq_162 (hz_wg wX10_list_0 (j := 46) (n := 162) rfl) (hz_wg wX10_list_0 (j := 47) (n := 0) rfl) (hz_wg wX10_list_0 (j := 48) (n := 21) rfl) (by decide)
theorem dX10_list_49 : decode cX10_list 49 = .ok (.aload_n 0, 1) := dq_42 (hz_wg wX10_list_0 (j := 49) (n := 42) rfl)
theorem dX10_list_50 : decode cX10_list 50 = .ok (.getfield 201, 3) := dq_180 (hz_wg wX10_list_0 (j := 50) (n := 180) rfl) (hz_wg wX10_list_0 (j := 51) (n := 0) rfl) (hz_wg wX10_list_0 (j := 52) (n := 201) rfl) rfl
theorem dX10_list_53 : decode cX10_list 53 = .ok (.iload_n 2, 1) := dq_28 (hz_wg wX10_list_0 (j := 53) (n := 28) rfl)
theorem dX10_list_54 : decode cX10_list 54 = .ok (.iaload, 1) := dq_46 (hz_wg wX10_list_0 (j := 54) (n := 46) rfl)
theorem dX10_list_55 : decode cX10_list 55 = .ok (.iload_n 1, 1) := dq_27 (hz_wg wX10_list_0 (j := 55) (n := 27) rfl)
theorem dX10_list_56 : decode cX10_list 56 = .ok (.if_icmp .ne 5, 3) := dq_160 (hz_wg wX10_list_0 (j := 56) (n := 160) rfl) (hz_wg wX10_list_0 (j := 57) (n := 0) rfl) (hz_wg wX10_list_0 (j := 58) (n := 5) rfl) (by decide)
theorem dX10_list_59 : decode cX10_list 59 = .ok (.iconst (-1), 1) := dq_2 (hz_wg wX10_list_0 (j := 59) (n := 2) rfl)
theorem dX10_list_60 : decode cX10_list 60 = .ok (.ireturn, 1) := dq_172 (hz_wg wX10_list_0 (j := 60) (n := 172) rfl)
theorem dX10_list_61 : decode cX10_list 61 = .ok (.iinc 2 1, 3) := dq_132 (hz_wg wX10_list_0 (j := 61) (n := 132) rfl) (hz_wg wX10_list_0 (j := 62) (n := 2) rfl) (hz_wg wX10_list_0 (j := 63) (n := 1) rfl) (by decide)
theorem dX10_list_64 : decode cX10_list 64 = .ok (.goto (-23), 3) := dq_167 (hz_wg wX10_list_1 (j := 0) (n := 167) rfl) (hz_wg wX10_list_1 (j := 1) (n := 255) rfl) (hz_wg wX10_list_1 (j := 2) (n := 233) rfl) (by decide)
theorem dX10_list_67 : decode cX10_list 67 = .ok (.aload_n 0, 1) := dq_42 (hz_wg wX10_list_1 (j := 3) (n := 42) rfl)
theorem dX10_list_68 : decode cX10_list 68 = .ok (.getfield 468, 3) := dq_180 (hz_wg wX10_list_1 (j := 4) (n := 180) rfl) (hz_wg wX10_list_1 (j := 5) (n := 1) rfl) (hz_wg wX10_list_1 (j := 6) (n := 212) rfl) rfl
theorem dX10_list_71 : decode cX10_list 71 = .ok (.istore_n 2, 1) := dq_61 (hz_wg wX10_list_1 (j := 7) (n := 61) rfl)
theorem dX10_list_72 : decode cX10_list 72 = .ok (.iload_n 2, 1) := dq_28 (hz_wg wX10_list_1 (j := 8) (n := 28) rfl)
theorem dX10_list_73 : decode cX10_list 73 = .ok (.ifCond .le 35, 3) := dq_158 (hz_wg wX10_list_1 (j := 9) (n := 158) rfl) (hz_wg wX10_list_1 (j := 10) (n := 0) rfl) (hz_wg wX10_list_1 (j := 11) (n := 35) rfl) (by decide)
theorem dX10_list_76 : decode cX10_list 76 = .ok (.aload_n 0, 1) := dq_42 (hz_wg wX10_list_1 (j := 12) (n := 42) rfl)
theorem dX10_list_77 : decode cX10_list 77 = .ok (.getfield 201, 3) := dq_180 (hz_wg wX10_list_1 (j := 13) (n := 180) rfl) (hz_wg wX10_list_1 (j := 14) (n := 0) rfl) (hz_wg wX10_list_1 (j := 15) (n := 201) rfl) rfl
theorem dX10_list_80 : decode cX10_list 80 = .ok (.iload_n 2, 1) := dq_28 (hz_wg wX10_list_1 (j := 16) (n := 28) rfl)
theorem dX10_list_81 : decode cX10_list 81 = .ok (.iconst 1, 1) := dq_4 (hz_wg wX10_list_1 (j := 17) (n := 4) rfl)
theorem dX10_list_82 : decode cX10_list 82 = .ok (.isub, 1) := dq_100 (hz_wg wX10_list_1 (j := 18) (n := 100) rfl)
theorem dX10_list_83 : decode cX10_list 83 = .ok (.iaload, 1) := dq_46 (hz_wg wX10_list_1 (j := 19) (n := 46) rfl)
theorem dX10_list_84 : decode cX10_list 84 = .ok (.iload_n 1, 1) := dq_27 (hz_wg wX10_list_1 (j := 20) (n := 27) rfl)
theorem dX10_list_85 : decode cX10_list 85 = .ok (.if_icmp .le 23, 3) := dq_164 (hz_wg wX10_list_1 (j := 21) (n := 164) rfl) (hz_wg wX10_list_1 (j := 22) (n := 0) rfl) (hz_wg wX10_list_1 (j := 23) (n := 23) rfl) (by decide)
theorem dX10_list_88 : decode cX10_list 88 = .ok (.aload_n 0, 1) := dq_42 (hz_wg wX10_list_1 (j := 24) (n := 42) rfl)
theorem dX10_list_89 : decode cX10_list 89 = .ok (.getfield 201, 3) := dq_180 (hz_wg wX10_list_1 (j := 25) (n := 180) rfl) (hz_wg wX10_list_1 (j := 26) (n := 0) rfl) (hz_wg wX10_list_1 (j := 27) (n := 201) rfl) rfl
theorem dX10_list_92 : decode cX10_list 92 = .ok (.iload_n 2, 1) := dq_28 (hz_wg wX10_list_1 (j := 28) (n := 28) rfl)
theorem dX10_list_93 : decode cX10_list 93 = .ok (.aload_n 0, 1) := dq_42 (hz_wg wX10_list_1 (j := 29) (n := 42) rfl)
theorem dX10_list_94 : decode cX10_list 94 = .ok (.getfield 201, 3) := dq_180 (hz_wg wX10_list_1 (j := 30) (n := 180) rfl) (hz_wg wX10_list_1 (j := 31) (n := 0) rfl) (hz_wg wX10_list_1 (j := 32) (n := 201) rfl) rfl
theorem dX10_list_97 : decode cX10_list 97 = .ok (.iload_n 2, 1) := dq_28 (hz_wg wX10_list_1 (j := 33) (n := 28) rfl)
theorem dX10_list_98 : decode cX10_list 98 = .ok (.iconst 1, 1) := dq_4 (hz_wg wX10_list_1 (j := 34) (n := 4) rfl)
theorem dX10_list_99 : decode cX10_list 99 = .ok (.isub, 1) := dq_100 (hz_wg wX10_list_1 (j := 35) (n := 100) rfl)
theorem dX10_list_100 : decode cX10_list 100 = .ok (.iaload, 1) := dq_46 (hz_wg wX10_list_1 (j := 36) (n := 46) rfl)
theorem dX10_list_101 : decode cX10_list 101 = .ok (.iastore, 1) := dq_79 (hz_wg wX10_list_1 (j := 37) (n := 79) rfl)
theorem dX10_list_102 : decode cX10_list 102 = .ok (.iinc 2 (-1), 3) := dq_132 (hz_wg wX10_list_1 (j := 38) (n := 132) rfl) (hz_wg wX10_list_1 (j := 39) (n := 2) rfl) (hz_wg wX10_list_1 (j := 40) (n := 255) rfl) (by decide)
theorem dX10_list_105 : decode cX10_list 105 = .ok (.goto (-33), 3) := dq_167 (hz_wg wX10_list_1 (j := 41) (n := 167) rfl) (hz_wg wX10_list_1 (j := 42) (n := 255) rfl) (hz_wg wX10_list_1 (j := 43) (n := 223) rfl) (by decide)
theorem dX10_list_108 : decode cX10_list 108 = .ok (.aload_n 0, 1) := dq_42 (hz_wg wX10_list_1 (j := 44) (n := 42) rfl)
theorem dX10_list_109 : decode cX10_list 109 = .ok (.getfield 201, 3) := dq_180 (hz_wg wX10_list_1 (j := 45) (n := 180) rfl) (hz_wg wX10_list_1 (j := 46) (n := 0) rfl) (hz_wg wX10_list_1 (j := 47) (n := 201) rfl) rfl
theorem dX10_list_112 : decode cX10_list 112 = .ok (.iload_n 2, 1) := dq_28 (hz_wg wX10_list_1 (j := 48) (n := 28) rfl)
theorem dX10_list_113 : decode cX10_list 113 = .ok (.iload_n 1, 1) := dq_27 (hz_wg wX10_list_1 (j := 49) (n := 27) rfl)
theorem dX10_list_114 : decode cX10_list 114 = .ok (.iastore, 1) := dq_79 (hz_wg wX10_list_1 (j := 50) (n := 79) rfl)
theorem dX10_list_115 : decode cX10_list 115 = .ok (.aload_n 0, 1) := dq_42 (hz_wg wX10_list_1 (j := 51) (n := 42) rfl)
theorem dX10_list_116 : decode cX10_list 116 = .ok (.dup, 1) := dq_89 (hz_wg wX10_list_1 (j := 52) (n := 89) rfl)
theorem dX10_list_117 : decode cX10_list 117 = .ok (.getfield 468, 3) := dq_180 (hz_wg wX10_list_1 (j := 53) (n := 180) rfl) (hz_wg wX10_list_1 (j := 54) (n := 1) rfl) (hz_wg wX10_list_1 (j := 55) (n := 212) rfl) rfl
theorem dX10_list_120 : decode cX10_list 120 = .ok (.iconst 1, 1) := dq_4 (hz_wg wX10_list_1 (j := 56) (n := 4) rfl)
theorem dX10_list_121 : decode cX10_list 121 = .ok (.iadd, 1) := dq_96 (hz_wg wX10_list_1 (j := 57) (n := 96) rfl)
theorem dX10_list_122 : decode cX10_list 122 = .ok (.putfield 468, 3) := dq_181 (hz_wg wX10_list_1 (j := 58) (n := 181) rfl) (hz_wg wX10_list_1 (j := 59) (n := 1) rfl) (hz_wg wX10_list_1 (j := 60) (n := 212) rfl) rfl
theorem dX10_list_125 : decode cX10_list 125 = .ok (.aload_n 0, 1) := dq_42 (hz_wg wX10_list_1 (j := 61) (n := 42) rfl)
theorem dX10_list_126 : decode cX10_list 126 = .ok (.getfield 468, 3) := dq_180 (hz_wg wX10_list_1 (j := 62) (n := 180) rfl) (hz_wg wX10_list_1 (j := 63) (n := 1) rfl) (hz_wg wX10_list_2 (j := 0) (n := 212) rfl) rfl
theorem dX10_list_129 : decode cX10_list 129 = .ok (.ireturn, 1) := dq_172 (hz_wg wX10_list_2 (j := 1) (n := 172) rfl)
theorem dX10_stepsBetween_0 : decode cX10_stepsBetween 0 = .ok (.iload_n 0, 1) := by decide +kernel
theorem dX10_stepsBetween_1 : decode cX10_stepsBetween 1 = .ok (.iload_n 2, 1) := by decide +kernel
theorem dX10_stepsBetween_2 : decode cX10_stepsBetween 2 = .ok (.if_icmp .ge 9, 3) := by decide +kernel
theorem dX10_stepsBetween_5 : decode cX10_stepsBetween 5 = .ok (.iload_n 2, 1) := by decide +kernel
theorem dX10_stepsBetween_6 : decode cX10_stepsBetween 6 = .ok (.iload_n 0, 1) := by decide +kernel
theorem dX10_stepsBetween_7 : decode cX10_stepsBetween 7 = .ok (.isub, 1) := by decide +kernel
theorem dX10_stepsBetween_8 : decode cX10_stepsBetween 8 = .ok (.goto 6, 3) := by decide +kernel
theorem dX10_stepsBetween_11 : decode cX10_stepsBetween 11 = .ok (.iload_n 0, 1) := by decide +kernel
theorem dX10_stepsBetween_12 : decode cX10_stepsBetween 12 = .ok (.iload_n 2, 1) := by decide +kernel
theorem dX10_stepsBetween_13 : decode cX10_stepsBetween 13 = .ok (.isub, 1) := by decide +kernel
theorem dX10_stepsBetween_14 : decode cX10_stepsBetween 14 = .ok (.iload_n 1, 1) := by decide +kernel
theorem dX10_stepsBetween_15 : decode cX10_stepsBetween 15 = .ok (.iload_n 3, 1) := by decide +kernel
theorem dX10_stepsBetween_16 : decode cX10_stepsBetween 16 = .ok (.if_icmp .ge 9, 3) := by decide +kernel
theorem dX10_stepsBetween_19 : decode cX10_stepsBetween 19 = .ok (.iload_n 3, 1) := by decide +kernel
theorem dX10_stepsBetween_20 : decode cX10_stepsBetween 20 = .ok (.iload_n 1, 1) := by decide +kernel
theorem dX10_stepsBetween_21 : decode cX10_stepsBetween 21 = .ok (.isub, 1) := by decide +kernel
theorem dX10_stepsBetween_22 : decode cX10_stepsBetween 22 = .ok (.goto 6, 3) := by decide +kernel
theorem dX10_stepsBetween_25 : decode cX10_stepsBetween 25 = .ok (.iload_n 1, 1) := by decide +kernel
theorem dX10_stepsBetween_26 : decode cX10_stepsBetween 26 = .ok (.iload_n 3, 1) := by decide +kernel
theorem dX10_stepsBetween_27 : decode cX10_stepsBetween 27 = .ok (.isub, 1) := by decide +kernel
theorem dX10_stepsBetween_28 : decode cX10_stepsBetween 28 = .ok (.iadd, 1) := by decide +kernel
theorem dX10_stepsBetween_29 : decode cX10_stepsBetween 29 = .ok (.ireturn, 1) := by decide +kernel
def wLX10_far_0 : List Nat := [27, 42, 180, 1, 212, 160, 0, 8, 16, 50, 167, 0, 19, 42, 180, 0, 47, 42, 180, 0, 84, 42, 180, 0, 201, 27, 46, 46, 46, 62, 27, 42, 180, 1, 212, 160, 0, 8, 16, 50, 167, 0, 19, 42, 180, 0, 50, 42, 180, 0, 84, 42, 180, 0, 201, 27, 46, 46, 46, 54, 4, 28, 42, 180]
def wLX10_far_1 : List Nat := [1, 212, 160, 0, 8, 16, 50, 167, 0, 19, 42, 180, 0, 47, 42, 180, 0, 84, 42, 180, 0, 201, 28, 46, 46, 46, 54, 5, 28, 42, 180, 1, 212, 160, 0, 8, 16, 50, 167, 0, 19, 42, 180, 0, 50, 42, 180, 0, 84, 42, 180, 0, 201, 28, 46, 46, 46, 54, 6, 29, 21, 4, 21, 5]
def wLX10_far_2 : List Nat := [21, 6, 184, 1, 215, 172]
theorem wX10_far_0 : (cX10_far.data.toList.map UInt8.toNat).drop 0 = wLX10_far_0 ++ (wLX10_far_1 ++ (wLX10_far_2 ++ ([]))) := by decide +kernel
theorem wX10_far_1 : (cX10_far.data.toList.map UInt8.toNat).drop 64 = wLX10_far_1 ++ (wLX10_far_2 ++ ([])) := hz_wn wX10_far_0 rfl
theorem wX10_far_2 : (cX10_far.data.toList.map UInt8.toNat).drop 128 = wLX10_far_2 ++ ([]) := hz_wn wX10_far_1 rfl
theorem dX10_far_0 : decode cX10_far 0 = .ok (.iload_n 1, 1) := dq_27 (hz_wg wX10_far_0 (j := 0) (n := 27) rfl)
theorem dX10_far_1 : decode cX10_far 1 = .ok (.aload_n 0, 1) := dq_42 (hz_wg wX10_far_0 (j := 1) (n := 42) rfl)
theorem dX10_far_2 : decode cX10_far 2 = .ok (.getfield 468, 3) := dq_180 (hz_wg wX10_far_0 (j := 2) (n := 180) rfl) (hz_wg wX10_far_0 (j := 3) (n := 1) rfl) (hz_wg wX10_far_0 (j := 4) (n := 212) rfl) rfl
theorem dX10_far_5 : decode cX10_far 5 = .ok (.if_icmp .ne 8, 3) := dq_160 (hz_wg wX10_far_0 (j := 5) (n := 160) rfl) (hz_wg wX10_far_0 (j := 6) (n := 0) rfl) (hz_wg wX10_far_0 (j := 7) (n := 8) rfl) (by decide)
theorem dX10_far_8 : decode cX10_far 8 = .ok (.bipush 50, 2) := dq_16 (hz_wg wX10_far_0 (j := 8) (n := 16) rfl) (hz_wg wX10_far_0 (j := 9) (n := 50) rfl) (by decide)
theorem dX10_far_10 : decode cX10_far 10 = .ok (.goto 19, 3) := dq_167 (hz_wg wX10_far_0 (j := 10) (n := 167) rfl) (hz_wg wX10_far_0 (j := 11) (n := 0) rfl) (hz_wg wX10_far_0 (j := 12) (n := 19) rfl) (by decide)
theorem dX10_far_13 : decode cX10_far 13 = .ok (.aload_n 0, 1) := dq_42 (hz_wg wX10_far_0 (j := 13) (n := 42) rfl)
theorem dX10_far_14 : decode cX10_far 14 = .ok (.getfield 47, 3) := dq_180 (hz_wg wX10_far_0 (j := 14) (n := 180) rfl) (hz_wg wX10_far_0 (j := 15) (n := 0) rfl) (hz_wg wX10_far_0 (j := 16) (n := 47) rfl) rfl
theorem dX10_far_17 : decode cX10_far 17 = .ok (.aload_n 0, 1) := dq_42 (hz_wg wX10_far_0 (j := 17) (n := 42) rfl)
theorem dX10_far_18 : decode cX10_far 18 = .ok (.getfield 84, 3) := dq_180 (hz_wg wX10_far_0 (j := 18) (n := 180) rfl) (hz_wg wX10_far_0 (j := 19) (n := 0) rfl) (hz_wg wX10_far_0 (j := 20) (n := 84) rfl) rfl
theorem dX10_far_21 : decode cX10_far 21 = .ok (.aload_n 0, 1) := dq_42 (hz_wg wX10_far_0 (j := 21) (n := 42) rfl)
theorem dX10_far_22 : decode cX10_far 22 = .ok (.getfield 201, 3) := dq_180 (hz_wg wX10_far_0 (j := 22) (n := 180) rfl) (hz_wg wX10_far_0 (j := 23) (n := 0) rfl) (hz_wg wX10_far_0 (j := 24) (n := 201) rfl) rfl
theorem dX10_far_25 : decode cX10_far 25 = .ok (.iload_n 1, 1) := dq_27 (hz_wg wX10_far_0 (j := 25) (n := 27) rfl)
theorem dX10_far_26 : decode cX10_far 26 = .ok (.iaload, 1) := dq_46 (hz_wg wX10_far_0 (j := 26) (n := 46) rfl)
theorem dX10_far_27 : decode cX10_far 27 = .ok (.iaload, 1) := dq_46 (hz_wg wX10_far_0 (j := 27) (n := 46) rfl)
theorem dX10_far_28 : decode cX10_far 28 = .ok (.iaload, 1) := dq_46 (hz_wg wX10_far_0 (j := 28) (n := 46) rfl)
theorem dX10_far_29 : decode cX10_far 29 = .ok (.istore_n 3, 1) := dq_62 (hz_wg wX10_far_0 (j := 29) (n := 62) rfl)
theorem dX10_far_30 : decode cX10_far 30 = .ok (.iload_n 1, 1) := dq_27 (hz_wg wX10_far_0 (j := 30) (n := 27) rfl)
theorem dX10_far_31 : decode cX10_far 31 = .ok (.aload_n 0, 1) := dq_42 (hz_wg wX10_far_0 (j := 31) (n := 42) rfl)
theorem dX10_far_32 : decode cX10_far 32 = .ok (.getfield 468, 3) := dq_180 (hz_wg wX10_far_0 (j := 32) (n := 180) rfl) (hz_wg wX10_far_0 (j := 33) (n := 1) rfl) (hz_wg wX10_far_0 (j := 34) (n := 212) rfl) rfl
theorem dX10_far_35 : decode cX10_far 35 = .ok (.if_icmp .ne 8, 3) := dq_160 (hz_wg wX10_far_0 (j := 35) (n := 160) rfl) (hz_wg wX10_far_0 (j := 36) (n := 0) rfl) (hz_wg wX10_far_0 (j := 37) (n := 8) rfl) (by decide)
theorem dX10_far_38 : decode cX10_far 38 = .ok (.bipush 50, 2) := dq_16 (hz_wg wX10_far_0 (j := 38) (n := 16) rfl) (hz_wg wX10_far_0 (j := 39) (n := 50) rfl) (by decide)
theorem dX10_far_40 : decode cX10_far 40 = .ok (.goto 19, 3) := dq_167 (hz_wg wX10_far_0 (j := 40) (n := 167) rfl) (hz_wg wX10_far_0 (j := 41) (n := 0) rfl) (hz_wg wX10_far_0 (j := 42) (n := 19) rfl) (by decide)
theorem dX10_far_43 : decode cX10_far 43 = .ok (.aload_n 0, 1) := dq_42 (hz_wg wX10_far_0 (j := 43) (n := 42) rfl)
theorem dX10_far_44 : decode cX10_far 44 = .ok (.getfield 50, 3) := dq_180 (hz_wg wX10_far_0 (j := 44) (n := 180) rfl) (hz_wg wX10_far_0 (j := 45) (n := 0) rfl) (hz_wg wX10_far_0 (j := 46) (n := 50) rfl) rfl
theorem dX10_far_47 : decode cX10_far 47 = .ok (.aload_n 0, 1) := dq_42 (hz_wg wX10_far_0 (j := 47) (n := 42) rfl)
theorem dX10_far_48 : decode cX10_far 48 = .ok (.getfield 84, 3) := dq_180 (hz_wg wX10_far_0 (j := 48) (n := 180) rfl) (hz_wg wX10_far_0 (j := 49) (n := 0) rfl) (hz_wg wX10_far_0 (j := 50) (n := 84) rfl) rfl
theorem dX10_far_51 : decode cX10_far 51 = .ok (.aload_n 0, 1) := dq_42 (hz_wg wX10_far_0 (j := 51) (n := 42) rfl)
theorem dX10_far_52 : decode cX10_far 52 = .ok (.getfield 201, 3) := dq_180 (hz_wg wX10_far_0 (j := 52) (n := 180) rfl) (hz_wg wX10_far_0 (j := 53) (n := 0) rfl) (hz_wg wX10_far_0 (j := 54) (n := 201) rfl) rfl
theorem dX10_far_55 : decode cX10_far 55 = .ok (.iload_n 1, 1) := dq_27 (hz_wg wX10_far_0 (j := 55) (n := 27) rfl)
theorem dX10_far_56 : decode cX10_far 56 = .ok (.iaload, 1) := dq_46 (hz_wg wX10_far_0 (j := 56) (n := 46) rfl)
theorem dX10_far_57 : decode cX10_far 57 = .ok (.iaload, 1) := dq_46 (hz_wg wX10_far_0 (j := 57) (n := 46) rfl)
theorem dX10_far_58 : decode cX10_far 58 = .ok (.iaload, 1) := dq_46 (hz_wg wX10_far_0 (j := 58) (n := 46) rfl)
theorem dX10_far_59 : decode cX10_far 59 = .ok (.istore 4, 2) := dq_54 (hz_wg wX10_far_0 (j := 59) (n := 54) rfl) (hz_wg wX10_far_0 (j := 60) (n := 4) rfl)
theorem dX10_far_61 : decode cX10_far 61 = .ok (.iload_n 2, 1) := dq_28 (hz_wg wX10_far_0 (j := 61) (n := 28) rfl)
theorem dX10_far_62 : decode cX10_far 62 = .ok (.aload_n 0, 1) := dq_42 (hz_wg wX10_far_0 (j := 62) (n := 42) rfl)
theorem dX10_far_63 : decode cX10_far 63 = .ok (.getfield 468, 3) := dq_180 (hz_wg wX10_far_0 (j := 63) (n := 180) rfl) (hz_wg wX10_far_1 (j := 0) (n := 1) rfl) (hz_wg wX10_far_1 (j := 1) (n := 212) rfl) rfl
theorem dX10_far_66 : decode cX10_far 66 = .ok (.if_icmp .ne 8, 3) := dq_160 (hz_wg wX10_far_1 (j := 2) (n := 160) rfl) (hz_wg wX10_far_1 (j := 3) (n := 0) rfl) (hz_wg wX10_far_1 (j := 4) (n := 8) rfl) (by decide)
theorem dX10_far_69 : decode cX10_far 69 = .ok (.bipush 50, 2) := dq_16 (hz_wg wX10_far_1 (j := 5) (n := 16) rfl) (hz_wg wX10_far_1 (j := 6) (n := 50) rfl) (by decide)
theorem dX10_far_71 : decode cX10_far 71 = .ok (.goto 19, 3) := dq_167 (hz_wg wX10_far_1 (j := 7) (n := 167) rfl) (hz_wg wX10_far_1 (j := 8) (n := 0) rfl) (hz_wg wX10_far_1 (j := 9) (n := 19) rfl) (by decide)
theorem dX10_far_74 : decode cX10_far 74 = .ok (.aload_n 0, 1) := dq_42 (hz_wg wX10_far_1 (j := 10) (n := 42) rfl)
theorem dX10_far_75 : decode cX10_far 75 = .ok (.getfield 47, 3) := dq_180 (hz_wg wX10_far_1 (j := 11) (n := 180) rfl) (hz_wg wX10_far_1 (j := 12) (n := 0) rfl) (hz_wg wX10_far_1 (j := 13) (n := 47) rfl) rfl
theorem dX10_far_78 : decode cX10_far 78 = .ok (.aload_n 0, 1) := dq_42 (hz_wg wX10_far_1 (j := 14) (n := 42) rfl)
theorem dX10_far_79 : decode cX10_far 79 = .ok (.getfield 84, 3) := dq_180 (hz_wg wX10_far_1 (j := 15) (n := 180) rfl) (hz_wg wX10_far_1 (j := 16) (n := 0) rfl) (hz_wg wX10_far_1 (j := 17) (n := 84) rfl) rfl
theorem dX10_far_82 : decode cX10_far 82 = .ok (.aload_n 0, 1) := dq_42 (hz_wg wX10_far_1 (j := 18) (n := 42) rfl)
theorem dX10_far_83 : decode cX10_far 83 = .ok (.getfield 201, 3) := dq_180 (hz_wg wX10_far_1 (j := 19) (n := 180) rfl) (hz_wg wX10_far_1 (j := 20) (n := 0) rfl) (hz_wg wX10_far_1 (j := 21) (n := 201) rfl) rfl
theorem dX10_far_86 : decode cX10_far 86 = .ok (.iload_n 2, 1) := dq_28 (hz_wg wX10_far_1 (j := 22) (n := 28) rfl)
theorem dX10_far_87 : decode cX10_far 87 = .ok (.iaload, 1) := dq_46 (hz_wg wX10_far_1 (j := 23) (n := 46) rfl)
theorem dX10_far_88 : decode cX10_far 88 = .ok (.iaload, 1) := dq_46 (hz_wg wX10_far_1 (j := 24) (n := 46) rfl)
theorem dX10_far_89 : decode cX10_far 89 = .ok (.iaload, 1) := dq_46 (hz_wg wX10_far_1 (j := 25) (n := 46) rfl)
theorem dX10_far_90 : decode cX10_far 90 = .ok (.istore 5, 2) := dq_54 (hz_wg wX10_far_1 (j := 26) (n := 54) rfl) (hz_wg wX10_far_1 (j := 27) (n := 5) rfl)
theorem dX10_far_92 : decode cX10_far 92 = .ok (.iload_n 2, 1) := dq_28 (hz_wg wX10_far_1 (j := 28) (n := 28) rfl)
theorem dX10_far_93 : decode cX10_far 93 = .ok (.aload_n 0, 1) := dq_42 (hz_wg wX10_far_1 (j := 29) (n := 42) rfl)
theorem dX10_far_94 : decode cX10_far 94 = .ok (.getfield 468, 3) := dq_180 (hz_wg wX10_far_1 (j := 30) (n := 180) rfl) (hz_wg wX10_far_1 (j := 31) (n := 1) rfl) (hz_wg wX10_far_1 (j := 32) (n := 212) rfl) rfl
theorem dX10_far_97 : decode cX10_far 97 = .ok (.if_icmp .ne 8, 3) := dq_160 (hz_wg wX10_far_1 (j := 33) (n := 160) rfl) (hz_wg wX10_far_1 (j := 34) (n := 0) rfl) (hz_wg wX10_far_1 (j := 35) (n := 8) rfl) (by decide)
theorem dX10_far_100 : decode cX10_far 100 = .ok (.bipush 50, 2) := dq_16 (hz_wg wX10_far_1 (j := 36) (n := 16) rfl) (hz_wg wX10_far_1 (j := 37) (n := 50) rfl) (by decide)
theorem dX10_far_102 : decode cX10_far 102 = .ok (.goto 19, 3) := dq_167 (hz_wg wX10_far_1 (j := 38) (n := 167) rfl) (hz_wg wX10_far_1 (j := 39) (n := 0) rfl) (hz_wg wX10_far_1 (j := 40) (n := 19) rfl) (by decide)
theorem dX10_far_105 : decode cX10_far 105 = .ok (.aload_n 0, 1) := dq_42 (hz_wg wX10_far_1 (j := 41) (n := 42) rfl)
theorem dX10_far_106 : decode cX10_far 106 = .ok (.getfield 50, 3) := dq_180 (hz_wg wX10_far_1 (j := 42) (n := 180) rfl) (hz_wg wX10_far_1 (j := 43) (n := 0) rfl) (hz_wg wX10_far_1 (j := 44) (n := 50) rfl) rfl
theorem dX10_far_109 : decode cX10_far 109 = .ok (.aload_n 0, 1) := dq_42 (hz_wg wX10_far_1 (j := 45) (n := 42) rfl)
theorem dX10_far_110 : decode cX10_far 110 = .ok (.getfield 84, 3) := dq_180 (hz_wg wX10_far_1 (j := 46) (n := 180) rfl) (hz_wg wX10_far_1 (j := 47) (n := 0) rfl) (hz_wg wX10_far_1 (j := 48) (n := 84) rfl) rfl
theorem dX10_far_113 : decode cX10_far 113 = .ok (.aload_n 0, 1) := dq_42 (hz_wg wX10_far_1 (j := 49) (n := 42) rfl)
theorem dX10_far_114 : decode cX10_far 114 = .ok (.getfield 201, 3) := dq_180 (hz_wg wX10_far_1 (j := 50) (n := 180) rfl) (hz_wg wX10_far_1 (j := 51) (n := 0) rfl) (hz_wg wX10_far_1 (j := 52) (n := 201) rfl) rfl
theorem dX10_far_117 : decode cX10_far 117 = .ok (.iload_n 2, 1) := dq_28 (hz_wg wX10_far_1 (j := 53) (n := 28) rfl)
theorem dX10_far_118 : decode cX10_far 118 = .ok (.iaload, 1) := dq_46 (hz_wg wX10_far_1 (j := 54) (n := 46) rfl)
theorem dX10_far_119 : decode cX10_far 119 = .ok (.iaload, 1) := dq_46 (hz_wg wX10_far_1 (j := 55) (n := 46) rfl)
theorem dX10_far_120 : decode cX10_far 120 = .ok (.iaload, 1) := dq_46 (hz_wg wX10_far_1 (j := 56) (n := 46) rfl)
theorem dX10_far_121 : decode cX10_far 121 = .ok (.istore 6, 2) := dq_54 (hz_wg wX10_far_1 (j := 57) (n := 54) rfl) (hz_wg wX10_far_1 (j := 58) (n := 6) rfl)
theorem dX10_far_123 : decode cX10_far 123 = .ok (.iload_n 3, 1) := dq_29 (hz_wg wX10_far_1 (j := 59) (n := 29) rfl)
theorem dX10_far_124 : decode cX10_far 124 = .ok (.iload 4, 2) := dq_21 (hz_wg wX10_far_1 (j := 60) (n := 21) rfl) (hz_wg wX10_far_1 (j := 61) (n := 4) rfl)
theorem dX10_far_126 : decode cX10_far 126 = .ok (.iload 5, 2) := dq_21 (hz_wg wX10_far_1 (j := 62) (n := 21) rfl) (hz_wg wX10_far_1 (j := 63) (n := 5) rfl)
theorem dX10_far_128 : decode cX10_far 128 = .ok (.iload 6, 2) := dq_21 (hz_wg wX10_far_2 (j := 0) (n := 21) rfl) (hz_wg wX10_far_2 (j := 1) (n := 6) rfl)
theorem dX10_far_130 : decode cX10_far 130 = .ok (.invokestatic 471, 3) := dq_184 (hz_wg wX10_far_2 (j := 2) (n := 184) rfl) (hz_wg wX10_far_2 (j := 3) (n := 1) rfl) (hz_wg wX10_far_2 (j := 4) (n := 215) rfl) rfl
theorem dX10_far_133 : decode cX10_far 133 = .ok (.ireturn, 1) := dq_172 (hz_wg wX10_far_2 (j := 5) (n := 172) rfl)
theorem dX10_walked_0 : decode cX10_walked 0 = .ok (.iload_n 1, 1) := by decide +kernel
theorem dX10_walked_1 : decode cX10_walked 1 = .ok (.iconst 0, 1) := by decide +kernel
theorem dX10_walked_2 : decode cX10_walked 2 = .ok (.aload_n 0, 1) := by decide +kernel
theorem dX10_walked_3 : decode cX10_walked 3 = .ok (.getfield 478, 3) := by decide +kernel
theorem dX10_walked_6 : decode cX10_walked 6 = .ok (.iconst 1, 1) := by decide +kernel
theorem dX10_walked_7 : decode cX10_walked 7 = .ok (.isub, 1) := by decide +kernel
theorem dX10_walked_8 : decode cX10_walked 8 = .ok (.invokestatic 228, 3) := by decide +kernel
theorem dX10_walked_11 : decode cX10_walked 11 = .ok (.ifCond .eq 12, 3) := by decide +kernel
theorem dX10_walked_14 : decode cX10_walked 14 = .ok (.aload_n 0, 1) := by decide +kernel
theorem dX10_walked_15 : decode cX10_walked 15 = .ok (.getfield 204, 3) := by decide +kernel
theorem dX10_walked_18 : decode cX10_walked 18 = .ok (.iload_n 1, 1) := by decide +kernel
theorem dX10_walked_19 : decode cX10_walked 19 = .ok (.iaload, 1) := by decide +kernel
theorem dX10_walked_20 : decode cX10_walked 20 = .ok (.goto 4, 3) := by decide +kernel
theorem dX10_walked_23 : decode cX10_walked 23 = .ok (.iconst (-1), 1) := by decide +kernel
theorem dX10_walked_24 : decode cX10_walked 24 = .ok (.ireturn, 1) := by decide +kernel