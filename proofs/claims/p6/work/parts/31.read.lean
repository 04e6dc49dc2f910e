def wLX6_skipBlanks_0 : List Nat := [42, 180, 0, 19, 42, 180, 0, 15, 162, 0, 30, 42, 180, 0, 9, 42, 180, 0, 19, 51, 16, 32, 160, 0, 16, 42, 89, 180, 0, 19, 4, 96, 181, 0, 19, 167, 255, 221, 177]
theorem wX6_skipBlanks_0 : (cX6_skipBlanks.data.toList.map UInt8.toNat).drop 0 = wLX6_skipBlanks_0 ++ ([]) := by decide +kernel
theorem dX6_skipBlanks_0 : decode cX6_skipBlanks 0 = .ok (.aload_n 0, 1) := dq_42 (hz_wg wX6_skipBlanks_0 (j := 0) (n := 42) rfl)
theorem dX6_skipBlanks_1 : decode cX6_skipBlanks 1 = .ok (.getfield 19, 3) := dq_180 (hz_wg wX6_skipBlanks_0 (j := 1) (n := 180) rfl) (hz_wg wX6_skipBlanks_0 (j := 2) (n := 0) rfl) (hz_wg wX6_skipBlanks_0 (j := 3) (n := 19) rfl) rfl
theorem dX6_skipBlanks_4 : decode cX6_skipBlanks 4 = .ok (.aload_n 0, 1) := dq_42 (hz_wg wX6_skipBlanks_0 (j := 4) (n := 42) rfl)
theorem dX6_skipBlanks_5 : decode cX6_skipBlanks 5 = .ok (.getfield 15, 3) := dq_180 (hz_wg wX6_skipBlanks_0 (j := 5) (n := 180) rfl) (hz_wg wX6_skipBlanks_0 (j := 6) (n := 0) rfl) (hz_wg wX6_skipBlanks_0 (j := 7) (n := 15) rfl) rfl
theorem dX6_skipBlanks_8 : decode cX6_skipBlanks 8 = .ok (.if_icmp .ge 30, 3) := dq_162 (hz_wg wX6_skipBlanks_0 (j := 8) (n := 162) rfl) (hz_wg wX6_skipBlanks_0 (j := 9) (n := 0) rfl) (hz_wg wX6_skipBlanks_0 (j := 10) (n := 30) rfl) (by decide)
theorem dX6_skipBlanks_11 : decode cX6_skipBlanks 11 = .ok (.aload_n 0, 1) := dq_42 (hz_wg wX6_skipBlanks_0 (j := 11) (n := 42) rfl)
theorem dX6_skipBlanks_12 : decode cX6_skipBlanks 12 = .ok (.getfield 9, 3) := dq_180 (hz_wg wX6_skipBlanks_0 (j := 12) (n := 180) rfl) (hz_wg wX6_skipBlanks_0 (j := 13) (n := 0) rfl) (hz_wg wX6_skipBlanks_0 (j := 14) (n := 9) rfl) rfl
theorem dX6_skipBlanks_15 : decode cX6_skipBlanks 15 = .ok (.aload_n 0, 1) := dq_42 (hz_wg wX6_skipBlanks_0 (j := 15) (n := 42) rfl)
theorem dX6_skipBlanks_16 : decode cX6_skipBlanks 16 = .ok (.getfield 19, 3) := dq_180 (hz_wg wX6_skipBlanks_0 (j := 16) (n := 180) rfl) (hz_wg wX6_skipBlanks_0 (j := 17) (n := 0) rfl) (hz_wg wX6_skipBlanks_0 (j := 18) (n := 19) rfl) rfl
theorem dX6_skipBlanks_19 : decode cX6_skipBlanks 19 = .ok (.baload, 1) := dq_51 (hz_wg wX6_skipBlanks_0 (j := 19) (n := 51) rfl)
theorem dX6_skipBlanks_20 : decode cX6_skipBlanks 20 = .ok (.bipush 32, 2) := dq_16 (hz_wg wX6_skipBlanks_0 (j := 20) (n := 16) rfl) (hz_wg wX6_skipBlanks_0 (j := 21) (n := 32) rfl) (by decide)
theorem dX6_skipBlanks_22 : decode cX6_skipBlanks 22 = .ok (.if_icmp .ne 16, 3) := dq_160 (hz_wg wX6_skipBlanks_0 (j := 22) (n := 160) rfl) (hz_wg wX6_skipBlanks_0 (j := 23) (n := 0) rfl) (hz_wg wX6_skipBlanks_0 (j := 24) (n := 16) rfl) (by decide)
theorem dX6_skipBlanks_25 : decode cX6_skipBlanks 25 = .ok (.aload_n 0, 1) := dq_42 (hz_wg wX6_skipBlanks_0 (j := 25) (n := 42) rfl)
theorem dX6_skipBlanks_26 : decode cX6_skipBlanks 26 = .ok (.dup, 1) := dq_89 (hz_wg wX6_skipBlanks_0 (j := 26) (n := 89) rfl)
theorem dX6_skipBlanks_27 : decode cX6_skipBlanks 27 = .ok (.getfield 19, 3) := dq_180 (hz_wg wX6_skipBlanks_0 (j := 27) (n := 180) rfl) (hz_wg wX6_skipBlanks_0 (j := 28) (n := 0) rfl) (hz_wg wX6_skipBlanks_0 (j := 29) (n := 19) rfl) rfl
theorem dX6_skipBlanks_30 : decode cX6_skipBlanks 30 = .ok (.iconst 1, 1) := dq_4 (hz_wg wX6_skipBlanks_0 (j := 30) (n := 4) rfl)
theorem dX6_skipBlanks_31 : decode cX6_skipBlanks 31 = .ok (.iadd, 1) := dq_96 (hz_wg wX6_skipBlanks_0 (j := 31) (n := 96) rfl)
theorem dX6_skipBlanks_32 : decode cX6_skipBlanks 32 = .ok (.putfield 19, 3) := dq_181 (hz_wg wX6_skipBlanks_0 (j := 32) (n := 181) rfl) (hz_wg wX6_skipBlanks_0 (j := 33) (n := 0) rfl) (hz_wg wX6_skipBlanks_0 (j := 34) (n := 19) rfl) rfl
theorem dX6_skipBlanks_35 : decode cX6_skipBlanks 35 = .ok (.goto (-35), 3) := dq_167 (hz_wg wX6_skipBlanks_0 (j := 35) (n := 167) rfl) (hz_wg wX6_skipBlanks_0 (j := 36) (n := 255) rfl) (hz_wg wX6_skipBlanks_0 (j := 37) (n := 221) rfl) (by decide)
theorem dX6_skipBlanks_38 : decode cX6_skipBlanks 38 = .ok (.return_, 1) := dq_177 (hz_wg wX6_skipBlanks_0 (j := 38) (n := 177) rfl)
theorem dX6_isByte_0 : decode cX6_isByte 0 = .ok (.aload_n 0, 1) := by decide +kernel
theorem dX6_isByte_1 : decode cX6_isByte 1 = .ok (.getfield 19, 3) := by decide +kernel
theorem dX6_isByte_4 : decode cX6_isByte 4 = .ok (.aload_n 0, 1) := by decide +kernel
theorem dX6_isByte_5 : decode cX6_isByte 5 = .ok (.getfield 15, 3) := by decide +kernel
theorem dX6_isByte_8 : decode cX6_isByte 8 = .ok (.if_icmp .ge 20, 3) := by decide +kernel
theorem dX6_isByte_11 : decode cX6_isByte 11 = .ok (.aload_n 0, 1) := by decide +kernel
theorem dX6_isByte_12 : decode cX6_isByte 12 = .ok (.getfield 9, 3) := by decide +kernel
theorem dX6_isByte_15 : decode cX6_isByte 15 = .ok (.aload_n 0, 1) := by decide +kernel
theorem dX6_isByte_16 : decode cX6_isByte 16 = .ok (.getfield 19, 3) := by decide +kernel
theorem dX6_isByte_19 : decode cX6_isByte 19 = .ok (.baload, 1) := by decide +kernel
theorem dX6_isByte_20 : decode cX6_isByte 20 = .ok (.iload_n 1, 1) := by decide +kernel
theorem dX6_isByte_21 : decode cX6_isByte 21 = .ok (.if_icmp .ne 7, 3) := by decide +kernel
theorem dX6_isByte_24 : decode cX6_isByte 24 = .ok (.iconst 1, 1) := by decide +kernel
theorem dX6_isByte_25 : decode cX6_isByte 25 = .ok (.goto 4, 3) := by decide +kernel
theorem dX6_isByte_28 : decode cX6_isByte 28 = .ok (.iconst 0, 1) := by decide +kernel
theorem dX6_isByte_29 : decode cX6_isByte 29 = .ok (.ireturn, 1) := by decide +kernel
def wLX6_isSlot_0 : List Nat := [29, 42, 180, 0, 19, 100, 16, 8, 164, 0, 5, 3, 172, 3, 54, 4, 21, 4, 16, 8, 162, 0, 65, 28, 21, 4, 96, 43, 182, 0, 128, 162, 0, 54, 42, 180, 0, 19, 21, 4, 96, 29, 162, 0, 18, 42, 180, 0, 9, 42, 180, 0, 19, 21, 4, 96, 51, 167, 0, 5, 16, 32, 54, 5]
def wLX6_isSlot_1 : List Nat := [43, 28, 21, 4, 96, 182, 0, 136, 21, 5, 159, 0, 5, 3, 172, 132, 4, 1, 167, 255, 190, 4, 172]
theorem wX6_isSlot_0 : (cX6_isSlot.data.toList.map UInt8.toNat).drop 0 = wLX6_isSlot_0 ++ (wLX6_isSlot_1 ++ ([])) := by decide +kernel
theorem wX6_isSlot_1 : (cX6_isSlot.data.toList.map UInt8.toNat).drop 64 = wLX6_isSlot_1 ++ ([]) := hz_wn wX6_isSlot_0 rfl
theorem dX6_isSlot_0 : decode cX6_isSlot 0 = .ok (.iload_n 3, 1) := dq_29 (hz_wg wX6_isSlot_0 (j := 0) (n := 29) rfl)
theorem dX6_isSlot_1 : decode cX6_isSlot 1 = .ok (.aload_n 0, 1) := dq_42 (hz_wg wX6_isSlot_0 (j := 1) (n := 42) rfl)
theorem dX6_isSlot_2 : decode cX6_isSlot 2 = .ok (.getfield 19, 3) := dq_180 (hz_wg wX6_isSlot_0 (j := 2) (n := 180) rfl) (hz_wg wX6_isSlot_0 (j := 3) (n := 0) rfl) (hz_wg wX6_isSlot_0 (j := 4) (n := 19) rfl) rfl
theorem dX6_isSlot_5 : decode cX6_isSlot 5 = .ok (.isub, 1) := dq_100 (hz_wg wX6_isSlot_0 (j := 5) (n := 100) rfl)
theorem dX6_isSlot_6 : decode cX6_isSlot 6 = .ok (.bipush 8, 2) := dq_16 (hz_wg wX6_isSlot_0 (j := 6) (n := 16) rfl) (hz_wg wX6_isSlot_0 (j := 7) (n := 8) rfl) (by decide)
theorem dX6_isSlot_8 : decode cX6_isSlot 8 = .ok (.if_icmp .le 5, 3) := dq_164 (hz_wg wX6_isSlot_0 (j := 8) (n := 164) rfl) (hz_wg wX6_isSlot_0 (j := 9) (n := 0) rfl) (hz_wg wX6_isSlot_0 (j := 10) (n := 5) rfl) (by decide)
theorem dX6_isSlot_11 : decode cX6_isSlot 11 = .ok (.iconst 0, 1) := dq_3 (hz_wg wX6_isSlot_0 (j := 11) (n := 3) rfl)
theorem dX6_isSlot_12 : decode cX6_isSlot 12 = .ok (.ireturn, 1) := dq_172 (hz_wg wX6_isSlot_0 (j := 12) (n := 172) rfl)
theorem dX6_isSlot_13 : decode cX6_isSlot 13 = .ok (.iconst 0, 1) := dq_3 (hz_wg wX6_isSlot_0 (j := 13) (n := 3) rfl)
theorem dX6_isSlot_14 : decode cX6_isSlot 14 = .ok (.istore 4, 2) := dq_54 (hz_wg wX6_isSlot_0 (j := 14) (n := 54) rfl) (hz_wg wX6_isSlot_0 (j := 15) (n := 4) rfl)
theorem dX6_isSlot_16 : decode cX6_isSlot 16 = .ok (.iload 4, 2) := dq_21 (hz_wg wX6_isSlot_0 (j := 16) (n := 21) rfl) (hz_wg wX6_isSlot_0 (j := 17) (n := 4) rfl)
theorem dX6_isSlot_18 : decode cX6_isSlot 18 = .ok (.bipush 8, 2) := dq_16 (hz_wg wX6_isSlot_0 (j := 18) (n := 16) rfl) (hz_wg wX6_isSlot_0 (j := 19) (n := 8) rfl) (by decide)
theorem dX6_isSlot_20 : decode cX6_isSlot 20 = .ok (.if_icmp .ge 65, 3) := dq_162 (hz_wg wX6_isSlot_0 (j := 20) (n := 162) rfl) (hz_wg wX6_isSlot_0 (j := 21) (n := 0) rfl) (hz_wg wX6_isSlot_0 (j := 22) (n := 65) rfl) (by decide)
theorem dX6_isSlot_23 : decode cX6_isSlot 23 = .ok (.iload_n 2, 1) := dq_28 (hz_wg wX6_isSlot_0 (j := 23) (n := 28) rfl)
theorem dX6_isSlot_24 : decode cX6_isSlot 24 = .ok (.iload 4, 2) := dq_21 (hz_wg wX6_isSlot_0 (j := 24) (n := 21) rfl) (hz_wg wX6_isSlot_0 (j := 25) (n := 4) rfl)
theorem dX6_isSlot_26 : decode cX6_isSlot 26 = .ok (.iadd, 1) := dq_96 (hz_wg wX6_isSlot_0 (j := 26) (n := 96) rfl)
theorem dX6_isSlot_27 : decode cX6_isSlot 27 = .ok (.aload_n 1, 1) := dq_43 (hz_wg wX6_isSlot_0 (j := 27) (n := 43) rfl)
theorem dX6_isSlot_28 : decode cX6_isSlot 28 = .ok (.invokevirtual 128, 3) := dq_182 (hz_wg wX6_isSlot_0 (j := 28) (n := 182) rfl) (hz_wg wX6_isSlot_0 (j := 29) (n := 0) rfl) (hz_wg wX6_isSlot_0 (j := 30) (n := 128) rfl) rfl
theorem dX6_isSlot_31 : decode cX6_isSlot 31 = .ok (.if_icmp .ge 54, 3) := dq_162 (hz_wg wX6_isSlot_0 (j := 31) (n := 162) rfl) (hz_wg wX6_isSlot_0 (j := 32) (n := 0) rfl) (hz_wg wX6_isSlot_0 (j := 33) (n := 54) rfl) (by decide)
theorem dX6_isSlot_34 : decode cX6_isSlot 34 = .ok (.aload_n 0, 1) := dq_42 (hz_wg wX6_isSlot_0 (j := 34) (n := 42) rfl)
theorem dX6_isSlot_35 : decode cX6_isSlot 35 = .ok (.getfield 19, 3) := dq_180 (hz_wg wX6_isSlot_0 (j := 35) (n := 180) rfl) (hz_wg wX6_isSlot_0 (j := 36) (n := 0) rfl) (hz_wg wX6_isSlot_0 (j := 37) (n := 19) rfl) rfl
theorem dX6_isSlot_38 : decode cX6_isSlot 38 = .ok (.iload 4, 2) := dq_21 (hz_wg wX6_isSlot_0 (j := 38) (n := 21) rfl) (hz_wg wX6_isSlot_0 (j := 39) (n := 4) rfl)
theorem dX6_isSlot_40 : decode cX6_isSlot 40 = .ok (.iadd, 1) := dq_96 (hz_wg wX6_isSlot_0 (j := 40) (n := 96) rfl)
theorem dX6_isSlot_41 : decode cX6_isSlot 41 = .ok (.iload_n 3, 1) := dq_29 (hz_wg wX6_isSlot_0 (j := 41) (n := 29) rfl)
theorem dX6_isSlot_42 : decode cX6_isSlot 42 = .ok (.if_icmp .ge 18, 3) := dq_162 (hz_wg wX6_isSlot_0 (j := 42) (n := 162) rfl) (hz_wg wX6_isSlot_0 (j := 43) (n := 0) rfl) (hz_wg wX6_isSlot_0 (j := 44) (n := 18) rfl) (by decide)
theorem dX6_isSlot_45 : decode cX6_isSlot 45 = .ok (.aload_n 0, 1) := dq_42 (hz_wg wX6_isSlot_0 (j := 45) (n := 42) rfl)
theorem dX6_isSlot_46 : decode cX6_isSlot 46 = .ok (.getfield 9, 3) := dq_180 (hz_wg wX6_isSlot_0 (j := 46) (n := 180) rfl) (hz_wg wX6_isSlot_0 (j := 47) (n := 0) rfl) (hz_wg wX6_isSlot_0 (j := 48) (n := 9) rfl) rfl
theorem dX6_isSlot_49 : decode cX6_isSlot 49 = .ok (.aload_n 0, 1) := dq_42 (hz_wg wX6_isSlot_0 (j := 49) (n := 42) rfl)
theorem dX6_isSlot_50 : decode cX6_isSlot 50 = .ok (.getfield 19, 3) := dq_180 (hz_wg wX6_isSlot_0 (j := 50) (n := 180) rfl) (hz_wg wX6_isSlot_0 (j := 51) (n := 0) rfl) (hz_wg wX6_isSlot_0 (j := 52) (n := 19) rfl) rfl
theorem dX6_isSlot_53 : decode cX6_isSlot 53 = .ok (.iload 4, 2) := dq_21 (hz_wg wX6_isSlot_0 (j := 53) (n := 21) rfl) (hz_wg wX6_isSlot_0 (j := 54) (n := 4) rfl)
theorem dX6_isSlot_55 : decode cX6_isSlot 55 = .ok (.iadd, 1) := dq_96 (hz_wg wX6_isSlot_0 (j := 55) (n := 96) rfl)
theorem dX6_isSlot_56 : decode cX6_isSlot 56 = .ok (.baload, 1) := dq_51 (hz_wg wX6_isSlot_0 (j := 56) (n := 51) rfl)
theorem dX6_isSlot_57 : decode cX6_isSlot 57 = .ok (.goto 5, 3) := dq_167 (hz_wg wX6_isSlot_0 (j := 57) (n := 167) rfl) (hz_wg wX6_isSlot_0 (j := 58) (n := 0) rfl) (hz_wg wX6_isSlot_0 (j := 59) (n := 5) rfl) (by decide)
theorem dX6_isSlot_60 : decode cX6_isSlot 60 = .ok (.bipush 32, 2) := dq_16 (hz_wg wX6_isSlot_0 (j := 60) (n := 16) rfl) (hz_wg wX6_isSlot_0 (j := 61) (n := 32) rfl) (by decide)
theorem dX6_isSlot_62 : decode cX6_isSlot 62 = .ok (.istore 5, 2) := dq_54 (hz_wg wX6_isSlot_0 (j := 62) (n := 54) rfl) (hz_wg wX6_isSlot_0 (j := 63) (n := 5) rfl)
theorem dX6_isSlot_64 : decode cX6_isSlot 64 = .ok (.aload_n 1, 1) := dq_43 (hz_wg wX6_isSlot_1 (j := 0) (n := 43) rfl)
theorem dX6_isSlot_65 : decode cX6_isSlot 65 = .ok (.iload_n 2, 1) := dq_28 (hz_wg wX6_isSlot_1 (j := 1) (n := 28) rfl)
theorem dX6_isSlot_66 : decode cX6_isSlot 66 = .ok (.iload 4, 2) := dq_21 (hz_wg wX6_isSlot_1 (j := 2) (n := 21) rfl) (hz_wg wX6_isSlot_1 (j := 3) (n := 4) rfl)
theorem dX6_isSlot_68 : decode cX6_isSlot 68 = .ok (.iadd, 1) := dq_96 (hz_wg wX6_isSlot_1 (j := 4) (n := 96) rfl)
theorem dX6_isSlot_69 : decode cX6_isSlot 69 = .ok (.invokevirtual 136, 3) := dq_182 (hz_wg wX6_isSlot_1 (j := 5) (n := 182) rfl) (hz_wg wX6_isSlot_1 (j := 6) (n := 0) rfl) (hz_wg wX6_isSlot_1 (j := 7) (n := 136) rfl) rfl
theorem dX6_isSlot_72 : decode cX6_isSlot 72 = .ok (.iload 5, 2) := dq_21 (hz_wg wX6_isSlot_1 (j := 8) (n := 21) rfl) (hz_wg wX6_isSlot_1 (j := 9) (n := 5) rfl)
theorem dX6_isSlot_74 : decode cX6_isSlot 74 = .ok (.if_icmp .eq 5, 3) := dq_159 (hz_wg wX6_isSlot_1 (j := 10) (n := 159) rfl) (hz_wg wX6_isSlot_1 (j := 11) (n := 0) rfl) (hz_wg wX6_isSlot_1 (j := 12) (n := 5) rfl) (by decide)
theorem dX6_isSlot_77 : decode cX6_isSlot 77 = .ok (.iconst 0, 1) := dq_3 (hz_wg wX6_isSlot_1 (j := 13) (n := 3) rfl)
theorem dX6_isSlot_78 : decode cX6_isSlot 78 = .ok (.ireturn, 1) := dq_172 (hz_wg wX6_isSlot_1 (j := 14) (n := 172) rfl)
theorem dX6_isSlot_79 : decode cX6_isSlot 79 = .ok (.iinc 4 1, 3) := dq_132 (hz_wg wX6_isSlot_1 (j := 15) (n := 132) rfl) (hz_wg wX6_isSlot_1 (j := 16) (n := 4) rfl) (hz_wg wX6_isSlot_1 (j := 17) (n := 1) rfl) (by decide)
theorem dX6_isSlot_82 : decode cX6_isSlot 82 = .ok (.goto (-66), 3) := dq_167 (hz_wg wX6_isSlot_1 (j := 18) (n := 167) rfl) (hz_wg wX6_isSlot_1 (j := 19) (n := 255) rfl) (hz_wg wX6_isSlot_1 (j := 20) (n := 190) rfl) (by decide)
theorem dX6_isSlot_85 : decode cX6_isSlot 85 = .ok (.iconst 1, 1) := dq_4 (hz_wg wX6_isSlot_1 (j := 21) (n := 4) rfl)
theorem dX6_isSlot_86 : decode cX6_isSlot 86 = .ok (.ireturn, 1) := dq_172 (hz_wg wX6_isSlot_1 (j := 22) (n := 172) rfl)
def wLX6_readWord_0 : List Nat := [42, 182, 0, 35, 42, 182, 0, 125, 61, 3, 62, 28, 42, 180, 0, 19, 164, 0, 40, 29, 16, 8, 96, 43, 182, 0, 128, 163, 0, 29, 42, 43, 29, 28, 182, 0, 132, 153, 0, 13, 42, 28, 181, 0, 19, 29, 16, 8, 108, 172, 132, 3, 8, 167, 255, 214, 2, 172]
theorem wX6_readWord_0 : (cX6_readWord.data.toList.map UInt8.toNat).drop 0 = wLX6_readWord_0 ++ ([]) := by decide +kernel
theorem dX6_readWord_0 : decode cX6_readWord 0 = .ok (.aload_n 0, 1) := dq_42 (hz_wg wX6_readWord_0 (j := 0) (n := 42) rfl)
theorem dX6_readWord_1 : decode cX6_readWord 1 = .ok (.invokevirtual 35, 3) := dq_182 (hz_wg wX6_readWord_0 (j := 1) (n := 182) rfl) (hz_wg wX6_readWord_0 (j := 2) (n := 0) rfl) (hz_wg wX6_readWord_0 (j := 3) (n := 35) rfl) rfl
theorem dX6_readWord_4 : decode cX6_readWord 4 = .ok (.aload_n 0, 1) := dq_42 (hz_wg wX6_readWord_0 (j := 4) (n := 42) rfl)
theorem dX6_readWord_5 : decode cX6_readWord 5 = .ok (.invokevirtual 125, 3) := dq_182 (hz_wg wX6_readWord_0 (j := 5) (n := 182) rfl) (hz_wg wX6_readWord_0 (j := 6) (n := 0) rfl) (hz_wg wX6_readWord_0 (j := 7) (n := 125) rfl) rfl
theorem dX6_readWord_8 : decode cX6_readWord 8 = .ok (.istore_n 2, 1) := dq_61 (hz_wg wX6_readWord_0 (j := 8) (n := 61) rfl)
theorem dX6_readWord_9 : decode cX6_readWord 9 = .ok (.iconst 0, 1) := dq_3 (hz_wg wX6_readWord_0 (j := 9) (n := 3) rfl)
theorem dX6_readWord_10 : decode cX6_readWord 10 = .ok (.istore_n 3, 1) := dq_62 (hz_wg wX6_readWord_0 (j := 10) (n := 62) rfl)
theorem dX6_readWord_11 : decode cX6_readWord 11 = .ok (.iload_n 2, 1) := dq_28 (hz_wg wX6_readWord_0 (j := 11) (n := 28) rfl)
theorem dX6_readWord_12 : decode cX6_readWord 12 = .ok (.aload_n 0, 1) := dq_42 (hz_wg wX6_readWord_0 (j := 12) (n := 42) rfl)
theorem dX6_readWord_13 : decode cX6_readWord 13 = .ok (.getfield 19, 3) := dq_180 (hz_wg wX6_readWord_0 (j := 13) (n := 180) rfl) (hz_wg wX6_readWord_0 (j := 14) (n := 0) rfl) (hz_wg wX6_readWord_0 (j := 15) (n := 19) rfl) rfl
theorem dX6_readWord_16 : decode cX6_readWord 16 = .ok (.if_icmp .le 40, 3) := dq_164 (hz_wg wX6_readWord_0 (j := 16) (n := 164) rfl) (hz_wg wX6_readWord_0 (j := 17) (n := 0) rfl) (hz_wg wX6_readWord_0 (j := 18) (n := 40) rfl) (by decide)
theorem dX6_readWord_19 : decode cX6_readWord 19 = .ok (.iload_n 3, 1) := dq_29 (hz_wg wX6_readWord_0 (j := 19) (n := 29) rfl)
theorem dX6_readWord_20 : decode cX6_readWord 20 = .ok (.bipush 8, 2) := dq_16 (hz_wg wX6_readWord_0 (j := 20) (n := 16) rfl) (hz_wg wX6_readWord_0 (j := 21) (n := 8) rfl) (by decide)
theorem dX6_readWord_22 : decode cX6_readWord 22 = .ok (.iadd, 1) := dq_96 (hz_wg wX6_readWord_0 (j := 22) (n := 96) rfl)
theorem dX6_readWord_23 : decode cX6_readWord 23 = .ok (.aload_n 1, 1) := dq_43 (hz_wg wX6_readWord_0 (j := 23) (n := 43) rfl)
theorem dX6_readWord_24 : decode cX6_readWord 24 = .ok (.invokevirtual 128, 3) := dq_182 (hz_wg wX6_readWord_0 (j := 24) (n := 182) rfl) (hz_wg wX6_readWord_0 (j := 25) (n := 0) rfl) (hz_wg wX6_readWord_0 (j := 26) (n := 128) rfl) rfl
theorem dX6_readWord_27 : decode cX6_readWord 27 = .ok (.if_icmp .gt 29, 3) := dq_163 (hz_wg wX6_readWord_0 (j := 27) (n := 163) rfl) (hz_wg wX6_readWord_0 (j := 28) (n := 0) rfl) (hz_wg wX6_readWord_0 (j := 29) (n := 29) rfl) (by decide)
theorem dX6_readWord_30 : decode cX6_readWord 30 = .ok (.aload_n 0, 1) := dq_42 (hz_wg wX6_readWord_0 (j := 30) (n := 42) rfl)
theorem dX6_readWord_31 : decode cX6_readWord 31 = .ok (.aload_n 1, 1) := dq_43 (hz_wg wX6_readWord_0 (j := 31) (n := 43) rfl)
theorem dX6_readWord_32 : decode cX6_readWord 32 = .ok (.iload_n 3, 1) := dq_29 (hz_wg wX6_readWord_0 (j := 32) (n := 29) rfl)
theorem dX6_readWord_33 : decode cX6_readWord 33 = .ok (.iload_n 2, 1) := dq_28 (hz_wg wX6_readWord_0 (j := 33) (n := 28) rfl)
theorem dX6_readWord_34 : decode cX6_readWord 34 = .ok (.invokevirtual 132, 3) := dq_182 (hz_wg wX6_readWord_0 (j := 34) (n := 182) rfl) (hz_wg wX6_readWord_0 (j := 35) (n := 0) rfl) (hz_wg wX6_readWord_0 (j := 36) (n := 132) rfl) rfl
theorem dX6_readWord_37 : decode cX6_readWord 37 = .ok (.ifCond .eq 13, 3) := dq_153 (hz_wg wX6_readWord_0 (j := 37) (n := 153) rfl) (hz_wg wX6_readWord_0 (j := 38) (n := 0) rfl) (hz_wg wX6_readWord_0 (j := 39) (n := 13) rfl) (by decide)
theorem dX6_readWord_40 : decode cX6_readWord 40 = .ok (.aload_n 0, 1) := dq_42 (hz_wg wX6_readWord_0 (j := 40) (n := 42) rfl)
theorem dX6_readWord_41 : decode cX6_readWord 41 = .ok (.iload_n 2, 1) := dq_28 (hz_wg wX6_readWord_0 (j := 41) (n := 28) rfl)
theorem dX6_readWord_42 : decode cX6_readWord 42 = .ok (.putfield 19, 3) := dq_181 (hz_wg wX6_readWord_0 (j := 42) (n := 181) rfl) (hz_wg wX6_readWord_0 (j := 43) (n := 0) rfl) (hz_wg wX6_readWord_0 (j := 44) (n := 19) rfl) rfl
theorem dX6_readWord_45 : decode cX6_readWord 45 = .ok (.iload_n 3, 1) := dq_29 (hz_wg wX6_readWord_0 (j := 45) (n := 29) rfl)
theorem dX6_readWord_46 : decode cX6_readWord 46 = .ok (.bipush 8, 2) := dq_16 (hz_wg wX6_readWord_0 (j := 46) (n := 16) rfl) (hz_wg wX6_readWord_0 (j := 47) (n := 8) rfl) (by decide)
theorem dX6_readWord_48 : decode cX6_readWord 48 = .ok (.idiv, 1) := dq_108 (hz_wg wX6_readWord_0 (j := 48) (n := 108) rfl)
theorem dX6_readWord_49 : decode cX6_readWord 49 = .ok (.ireturn, 1) := dq_172 (hz_wg wX6_readWord_0 (j := 49) (n := 172) rfl)
theorem dX6_readWord_50 : decode cX6_readWord 50 = .ok (.iinc 3 8, 3) := dq_132 (hz_wg wX6_readWord_0 (j := 50) (n := 132) rfl) (hz_wg wX6_readWord_0 (j := 51) (n := 3) rfl) (hz_wg wX6_readWord_0 (j := 52) (n := 8) rfl) (by decide)
theorem dX6_readWord_53 : decode cX6_readWord 53 = .ok (.goto (-42), 3) := dq_167 (hz_wg wX6_readWord_0 (j := 53) (n := 167) rfl) (hz_wg wX6_readWord_0 (j := 54) (n := 255) rfl) (hz_wg wX6_readWord_0 (j := 55) (n := 214) rfl) (by decide)
theorem dX6_readWord_56 : decode cX6_readWord 56 = .ok (.iconst (-1), 1) := dq_2 (hz_wg wX6_readWord_0 (j := 56) (n := 2) rfl)
theorem dX6_readWord_57 : decode cX6_readWord 57 = .ok (.ireturn, 1) := dq_172 (hz_wg wX6_readWord_0 (j := 57) (n := 172) rfl)
def wLX6_isNextWord_0 : List Nat := [42, 182, 0, 35, 42, 182, 0, 125, 61, 28, 42, 180, 0, 19, 164, 0, 17, 42, 43, 3, 28, 182, 0, 132, 153, 0, 7, 4, 167, 0, 4, 3, 172]
theorem wX6_isNextWord_0 : (cX6_isNextWord.data.toList.map UInt8.toNat).drop 0 = wLX6_isNextWord_0 ++ ([]) := by decide +kernel
theorem dX6_isNextWord_0 : decode cX6_isNextWord 0 = .ok (.aload_n 0, 1) := dq_42 (hz_wg wX6_isNextWord_0 (j := 0) (n := 42) rfl)
theorem dX6_isNextWord_1 : decode cX6_isNextWord 1 = .ok (.invokevirtual 35, 3) := dq_182 (hz_wg wX6_isNextWord_0 (j := 1) (n := 182) rfl) (hz_wg wX6_isNextWord_0 (j := 2) (n := 0) rfl) (hz_wg wX6_isNextWord_0 (j := 3) (n := 35) rfl) rfl
theorem dX6_isNextWord_4 : decode cX6_isNextWord 4 = .ok (.aload_n 0, 1) := dq_42 (hz_wg wX6_isNextWord_0 (j := 4) (n := 42) rfl)
theorem dX6_isNextWord_5 : decode cX6_isNextWord 5 = .ok (.invokevirtual 125, 3) := dq_182 (hz_wg wX6_isNextWord_0 (j := 5) (n := 182) rfl) (hz_wg wX6_isNextWord_0 (j := 6) (n := 0) rfl) (hz_wg wX6_isNextWord_0 (j := 7) (n := 125) rfl) rfl
theorem dX6_isNextWord_8 : decode cX6_isNextWord 8 = .ok (.istore_n 2, 1) := dq_61 (hz_wg wX6_isNextWord_0 (j := 8) (n := 61) rfl)
theorem dX6_isNextWord_9 : decode cX6_isNextWord 9 = .ok (.iload_n 2, 1) := dq_28 (hz_wg wX6_isNextWord_0 (j := 9) (n := 28) rfl)
theorem dX6_isNextWord_10 : decode cX6_isNextWord 10 = .ok (.aload_n 0, 1) := dq_42 (hz_wg wX6_isNextWord_0 (j := 10) (n := 42) rfl)
theorem dX6_isNextWord_11 : decode cX6_isNextWord 11 = .ok (.getfield 19, 3) := dq_180 (hz_wg wX6_isNextWord_0 (j := 11) (n := 180) rfl) (hz_wg wX6_isNextWord_0 (j := 12) (n := 0) rfl) (hz_wg wX6_isNextWord_0 (j := 13) (n := 19) rfl) rfl
theorem dX6_isNextWord_14 : decode cX6_isNextWord 14 = .ok (.if_icmp .le 17, 3) := dq_164 (hz_wg wX6_isNextWord_0 (j := 14) (n := 164) rfl) (hz_wg wX6_isNextWord_0 (j := 15) (n := 0) rfl) (hz_wg wX6_isNextWord_0 (j := 16) (n := 17) rfl) (by decide)
theorem dX6_isNextWord_17 : decode cX6_isNextWord 17 = .ok (.aload_n 0, 1) := dq_42 (hz_wg wX6_isNextWord_0 (j := 17) (n := 42) rfl)
theorem dX6_isNextWord_18 : decode cX6_isNextWord 18 = .ok (.aload_n 1, 1) := dq_43 (hz_wg wX6_isNextWord_0 (j := 18) (n := 43) rfl)
theorem dX6_isNextWord_19 : decode cX6_isNextWord 19 = .ok (.iconst 0, 1) := dq_3 (hz_wg wX6_isNextWord_0 (j := 19) (n := 3) rfl)
theorem dX6_isNextWord_20 : decode cX6_isNextWord 20 = .ok (.iload_n 2, 1) := dq_28 (hz_wg wX6_isNextWord_0 (j := 20) (n := 28) rfl)
theorem dX6_isNextWord_21 : decode cX6_isNextWord 21 = .ok (.invokevirtual 132, 3) := dq_182 (hz_wg wX6_isNextWord_0 (j := 21) (n := 182) rfl) (hz_wg wX6_isNextWord_0 (j := 22) (n := 0) rfl) (hz_wg wX6_isNextWord_0 (j := 23) (n := 132) rfl) rfl
theorem dX6_isNextWord_24 : decode cX6_isNextWord 24 = .ok (.ifCond .eq 7, 3) := dq_153 (hz_wg wX6_isNextWord_0 (j := 24) (n := 153) rfl) (hz_wg wX6_isNextWord_0 (j := 25) (n := 0) rfl) (hz_wg wX6_isNextWord_0 (j := 26) (n := 7) rfl) (by decide)
theorem dX6_isNextWord_27 : decode cX6_isNextWord 27 = .ok (.iconst 1, 1) := dq_4 (hz_wg wX6_isNextWord_0 (j := 27) (n := 4) rfl)
theorem dX6_isNextWord_28 : decode cX6_isNextWord 28 = .ok (.goto 4, 3) := dq_167 (hz_wg wX6_isNextWord_0 (j := 28) (n := 167) rfl) (hz_wg wX6_isNextWord_0 (j := 29) (n := 0) rfl) (hz_wg wX6_isNextWord_0 (j := 30) (n := 4) rfl) (by decide)
theorem dX6_isNextWord_31 : decode cX6_isNextWord 31 = .ok (.iconst 0, 1) := dq_3 (hz_wg wX6_isNextWord_0 (j := 31) (n := 3) rfl)
theorem dX6_isNextWord_32 : decode cX6_isNextWord 32 = .ok (.ireturn, 1) := dq_172 (hz_wg wX6_isNextWord_0 (j := 32) (n := 172) rfl)
def wLX6_readNumber_0 : List Nat := [42, 180, 0, 19, 60, 3, 61, 42, 180, 0, 19, 42, 180, 0, 15, 162, 0, 55, 42, 42, 180, 0, 19, 182, 0, 75, 153, 0, 44, 42, 180, 0, 19, 27, 100, 7, 162, 0, 21, 28, 16, 10, 104, 42, 180, 0, 9, 42, 180, 0, 19, 51, 96, 16, 48, 100, 61, 42, 89, 180, 0, 19, 4, 96]
def wLX6_readNumber_1 : List Nat := [181, 0, 19, 167, 255, 196, 42, 180, 0, 19, 27, 100, 7, 164, 0, 7, 2, 167, 0, 4, 28, 172]
theorem wX6_readNumber_0 : (cX6_readNumber.data.toList.map UInt8.toNat).drop 0 = wLX6_readNumber_0 ++ (wLX6_readNumber_1 ++ ([])) := by decide +kernel
theorem wX6_readNumber_1 : (cX6_readNumber.data.toList.map UInt8.toNat).drop 64 = wLX6_readNumber_1 ++ ([]) := hz_wn wX6_readNumber_0 rfl
theorem dX6_readNumber_0 : decode cX6_readNumber 0 = .ok (.aload_n 0, 1) := dq_42 (hz_wg wX6_readNumber_0 (j := 0) (n := 42) rfl)
theorem dX6_readNumber_1 : decode cX6_readNumber 1 = .ok (.getfield 19, 3) := dq_180 (hz_wg wX6_readNumber_0 (j := 1) (n := 180) rfl) (hz_wg wX6_readNumber_0 (j := 2) (n := 0) rfl) (hz_wg wX6_readNumber_0 (j := 3) (n := 19) rfl) rfl
theorem dX6_readNumber_4 : decode cX6_readNumber 4 = .ok (.istore_n 1, 1) := dq_60 (hz_wg wX6_readNumber_0 (j := 4) (n := 60) rfl)
theorem dX6_readNumber_5 : decode cX6_readNumber 5 = .ok (.iconst 0, 1) := dq_3 (hz_wg wX6_readNumber_0 (j := 5) (n := 3) rfl)
theorem dX6_readNumber_6 : decode cX6_readNumber 6 = .ok (.istore_n 2, 1) := dq_61 (hz_wg wX6_readNumber_0 (j := 6) (n := 61) rfl)
theorem dX6_readNumber_7 : decode cX6_readNumber 7 = .ok (.aload_n 0, 1) := dq_42 (hz_wg wX6_readNumber_0 (j := 7) (n := 42) rfl)
theorem dX6_readNumber_8 : decode cX6_readNumber 8 = .ok (.getfield 19, 3) := dq_180 (hz_wg wX6_readNumber_0 (j := 8) (n := 180) rfl) (hz_wg wX6_readNumber_0 (j := 9) (n := 0) rfl) (hz_wg wX6_readNumber_0 (j := 10) (n := 19) rfl) rfl
theorem dX6_readNumber_11 : decode cX6_readNumber 11 = .ok (.aload_n 0, 1) := dq_42 (hz_wg wX6_readNumber_0 (j := 11) (n := 42) rfl)
theorem dX6_readNumber_12 : decode cX6_readNumber 12 = .ok (.getfield 15, 3) := dq_180 (hz_wg wX6_readNumber_0 (j := 12) (n := 180) rfl) (hz_wg wX6_readNumber_0 (j := 13) (n := 0) rfl) (hz_wg wX6_readNumber_0 (j := 14) (n := 15) rfl) rfl
theorem dX6_readNumber_15 : decode cX6_readNumber 15 = .ok (.if_icmp .ge 55, 3) := dq_162 (hz_wg wX6_readNumber_0 (j := 15) (n := 162) rfl) (hz_wg wX6_readNumber_0 (j := 16) (n := 0) rfl) (hz_wg wX6_readNumber_0 (j := 17) (n := 55) rfl) (by decide)
theorem dX6_readNumber_18 : decode cX6_readNumber 18 = .ok (.aload_n 0, 1) := dq_42 (hz_wg wX6_readNumber_0 (j := 18) (n := 42) rfl)
theorem dX6_readNumber_19 : decode cX6_readNumber 19 = .ok (.aload_n 0, 1) := dq_42 (hz_wg wX6_readNumber_0 (j := 19) (n := 42) rfl)
theorem dX6_readNumber_20 : decode cX6_readNumber 20 = .ok (.getfield 19, 3) := dq_180 (hz_wg wX6_readNumber_0 (j := 20) (n := 180) rfl) (hz_wg wX6_readNumber_0 (j := 21) (n := 0) rfl) (hz_wg wX6_readNumber_0 (j := 22) (n := 19) rfl) rfl
theorem dX6_readNumber_23 : decode cX6_readNumber 23 = .ok (.invokevirtual 75, 3) := dq_182 (hz_wg wX6_readNumber_0 (j := 23) (n := 182) rfl) (hz_wg wX6_readNumber_0 (j := 24) (n := 0) rfl) (hz_wg wX6_readNumber_0 (j := 25) (n := 75) rfl) rfl
theorem dX6_readNumber_26 : decode cX6_readNumber 26 = .ok (.ifCond .eq 44, 3) := dq_153 (hz_wg wX6_readNumber_0 (j := 26) (n := 153) rfl) (hz_wg wX6_readNumber_0 (j := 27) (n := 0) rfl) (hz_wg wX6_readNumber_0 (j := 28) (n := 44) rfl) (by decide)
theorem dX6_readNumber_29 : decode cX6_readNumber 29 = .ok (.aload_n 0, 1) := dq_42 (hz_wg wX6_readNumber_0 (j := 29) (n := 42) rfl)
theorem dX6_readNumber_30 : decode cX6_readNumber 30 = .ok (.getfield 19, 3) := dq_180 (hz_wg wX6_readNumber_0 (j := 30) (n := 180) rfl) (hz_wg wX6_readNumber_0 (j := 31) (n := 0) rfl) (hz_wg wX6_readNumber_0 (j := 32) (n := 19) rfl) rfl
theorem dX6_readNumber_33 : decode cX6_readNumber 33 = .ok (.iload_n 1, 1) := dq_27 (hz_wg wX6_readNumber_0 (j := 33) (n := 27) rfl)
theorem dX6_readNumber_34 : decode cX6_readNumber 34 = .ok (.isub, 1) := dq_100 (hz_wg wX6_readNumber_0 (j := 34) (n := 100) rfl)
theorem dX6_readNumber_35 : decode cX6_readNumber 35 = .ok (.iconst 4, 1) := dq_7 (hz_wg wX6_readNumber_0 (j := 35) (n := 7) rfl)
theorem dX6_readNumber_36 : decode cX6_readNumber 36 = .ok (.if_icmp .ge 21, 3) := dq_162 (hz_wg wX6_readNumber_0 (j := 36) (n := 162) rfl) (hz_wg wX6_readNumber_0 (j := 37) (n := 0) rfl) (hz_wg wX6_readNumber_0 (j := 38) (n := 21) rfl) (by decide)
theorem dX6_readNumber_39 : decode cX6_readNumber 39 = .ok (.iload_n 2, 1) := dq_28 (hz_wg wX6_readNumber_0 (j := 39) (n := 28) rfl)
theorem dX6_readNumber_40 : decode cX6_readNumber 40 = .ok (.bipush 10, 2) := dq_16 (hz_wg wX6_readNumber_0 (j := 40) (n := 16) rfl) (hz_wg wX6_readNumber_0 (j := 41) (n := 10) rfl) (by decide)
theorem dX6_readNumber_42 : decode cX6_readNumber 42 = .ok (.imul, 1) := dq_104 (hz_wg wX6_readNumber_0 (j := 42) (n := 104) rfl)
theorem dX6_readNumber_43 : decode cX6_readNumber 43 = .ok (.aload_n 0, 1) := dq_42 (hz_wg wX6_readNumber_0 (j := 43) (n := 42) rfl)
theorem dX6_readNumber_44 : decode cX6_readNumber 44 = .ok (.getfield 9, 3) := dq_180 (hz_wg wX6_readNumber_0 (j := 44) (n := 180) rfl) (hz_wg wX6_readNumber_0 (j := 45) (n := 0) rfl) (hz_wg wX6_readNumber_0 (j := 46) (n := 9) rfl) rfl
theorem dX6_readNumber_47 : decode cX6_readNumber 47 = .ok (.aload_n 0, 1) := dq_42 (hz_wg wX6_readNumber_0 (j := 47) (n := 42) rfl)
theorem dX6_readNumber_48 : decode cX6_readNumber 48 = .ok (.getfield 19, 3) := dq_180 (hz_wg wX6_readNumber_0 (j := 48) (n := 180) rfl) (hz_wg wX6_readNumber_0 (j := 49) (n := 0) rfl) (hz_wg wX6_readNumber_0 (j := 50) (n := 19) rfl) rfl
theorem dX6_readNumber_51 : decode cX6_readNumber 51 = .ok (.baload, 1) := dq_51 (hz_wg wX6_readNumber_0 (j := 51) (n := 51) rfl)
theorem dX6_readNumber_52 : decode cX6_readNumber 52 = .ok (.iadd, 1) := dq_96 (hz_wg wX6_readNumber_0 (j := 52) (n := 96) rfl)
theorem dX6_readNumber_53 : decode cX6_readNumber 53 = .ok (.bipush 48, 2) := dq_16 (hz_wg wX6_readNumber_0 (j := 53) (n := 16) rfl) (hz_wg wX6_readNumber_0 (j := 54) (n := 48) rfl) (by decide)
theorem dX6_readNumber_55 : decode cX6_readNumber 55 = .ok (.isub, 1) := dq_100 (hz_wg wX6_readNumber_0 (j := 55) (n := 100) rfl)
theorem dX6_readNumber_56 : decode cX6_readNumber 56 = .ok (.istore_n 2, 1) := dq_61 (hz_wg wX6_readNumber_0 (j := 56) (n := 61) rfl)
theorem dX6_readNumber_57 : decode cX6_readNumber 57 = .ok (.aload_n 0, 1) := dq_42 (hz_wg wX6_readNumber_0 (j := 57) (n := 42) rfl)
theorem dX6_readNumber_58 : decode cX6_readNumber 58 = .ok (.dup, 1) := dq_89 (hz_wg wX6_readNumber_0 (j := 58) (n := 89) rfl)
theorem dX6_readNumber_59 : decode cX6_readNumber 59 = .ok (.getfield 19, 3) := dq_180 (hz_wg wX6_readNumber_0 (j := 59) (n := 180) rfl) (hz_wg wX6_readNumber_0 (j := 60) (n := 0) rfl) (hz_wg wX6_readNumber_0 (j := 61) (n := 19) rfl) rfl
theorem dX6_readNumber_62 : decode cX6_readNumber 62 = .ok (.iconst 1, 1) := dq_4 (hz_wg wX6_readNumber_0 (j := 62) (n := 4) rfl)
theorem dX6_readNumber_63 : decode cX6_readNumber 63 = .ok (.iadd, 1) := dq_96 (hz_wg wX6_readNumber_0 (j := 63) (n := 96) rfl)
theorem dX6_readNumber_64 : decode cX6_readNumber 64 = .ok (.putfield 19, 3) := dq_181 (hz_wg wX6_readNumber_1 (j := 0) (n := 181) rfl) (hz_wg wX6_readNumber_1 (j := 1) (n := 0) rfl) (hz_wg wX6_readNumber_1 (j := 2) (n := 19) rfl) rfl
theorem dX6_readNumber_67 : decode cX6_readNumber 67 = .ok (.goto (-60), 3) := dq_167 (hz_wg wX6_readNumber_1 (j := 3) (n := 167) rfl) (hz_wg wX6_readNumber_1 (j := 4) (n := 255) rfl) (hz_wg wX6_readNumber_1 (j := 5) (n := 196) rfl) (by decide)
theorem dX6_readNumber_70 : decode cX6_readNumber 70 = .ok (.aload_n 0, 1) := dq_42 (hz_wg wX6_readNumber_1 (j := 6) (n := 42) rfl)
theorem dX6_readNumber_71 : decode cX6_readNumber 71 = .ok (.getfield 19, 3) := dq_180 (hz_wg wX6_readNumber_1 (j := 7) (n := 180) rfl) (hz_wg wX6_readNumber_1 (j := 8) (n := 0) rfl) (hz_wg wX6_readNumber_1 (j := 9) (n := 19) rfl) rfl
theorem dX6_readNumber_74 : decode cX6_readNumber 74 = .ok (.iload_n 1, 1) := dq_27 (hz_wg wX6_readNumber_1 (j := 10) (n := 27) rfl)
theorem dX6_readNumber_75 : decode cX6_readNumber 75 = .ok (.isub, 1) := dq_100 (hz_wg wX6_readNumber_1 (j := 11) (n := 100) rfl)
theorem dX6_readNumber_76 : decode cX6_readNumber 76 = .ok (.iconst 4, 1) := dq_7 (hz_wg wX6_readNumber_1 (j := 12) (n := 7) rfl)
theorem dX6_readNumber_77 : decode cX6_readNumber 77 = .ok (.if_icmp .le 7, 3) := dq_164 (hz_wg wX6_readNumber_1 (j := 13) (n := 164) rfl) (hz_wg wX6_readNumber_1 (j := 14) (n := 0) rfl) (hz_wg wX6_readNumber_1 (j := 15) (n := 7) rfl) (by decide)
theorem dX6_readNumber_80 : decode cX6_readNumber 80 = .ok (.iconst (-1), 1) := dq_2 (hz_wg wX6_readNumber_1 (j := 16) (n := 2) rfl)
theorem dX6_readNumber_81 : decode cX6_readNumber 81 = .ok (.goto 4, 3) := dq_167 (hz_wg wX6_readNumber_1 (j := 17) (n := 167) rfl) (hz_wg wX6_readNumber_1 (j := 18) (n := 0) rfl) (hz_wg wX6_readNumber_1 (j := 19) (n := 4) rfl) (by decide)
theorem dX6_readNumber_84 : decode cX6_readNumber 84 = .ok (.iload_n 2, 1) := dq_28 (hz_wg wX6_readNumber_1 (j := 20) (n := 28) rfl)
theorem dX6_readNumber_85 : decode cX6_readNumber 85 = .ok (.ireturn, 1) := dq_172 (hz_wg wX6_readNumber_1 (j := 21) (n := 172) rfl)
def wLX6_readSign_0 : List Nat := [42, 182, 0, 35, 42, 16, 60, 182, 0, 109, 153, 0, 7, 4, 167, 0, 17, 42, 16, 62, 182, 0, 109, 153, 0, 7, 7, 167, 0, 4, 3, 60, 27, 153, 0, 13, 42, 89, 180, 0, 19, 4, 96, 181, 0, 19, 42, 16, 61, 182, 0, 109, 153, 0, 17, 42, 89, 180, 0, 19, 4, 96, 181, 0]
def wLX6_readSign_1 : List Nat := [19, 27, 5, 128, 60, 27, 172]
theorem wX6_readSign_0 : (cX6_readSign.data.toList.map UInt8.toNat).drop 0 = wLX6_readSign_0 ++ (wLX6_readSign_1 ++ ([])) := by decide +kernel
theorem wX6_readSign_1 : (cX6_readSign.data.toList.map UInt8.toNat).drop 64 = wLX6_readSign_1 ++ ([]) := hz_wn wX6_readSign_0 rfl
theorem dX6_readSign_0 : decode cX6_readSign 0 = .ok (.aload_n 0, 1) := dq_42 (hz_wg wX6_readSign_0 (j := 0) (n := 42) rfl)
theorem dX6_readSign_1 : decode cX6_readSign 1 = .ok (.invokevirtual 35, 3) := dq_182 (hz_wg wX6_readSign_0 (j := 1) (n := 182) rfl) (hz_wg wX6_readSign_0 (j := 2) (n := 0) rfl) (hz_wg wX6_readSign_0 (j := 3) (n := 35) rfl) rfl
theorem dX6_readSign_4 : decode cX6_readSign 4 = .ok (.aload_n 0, 1) := dq_42 (hz_wg wX6_readSign_0 (j := 4) (n := 42) rfl)
theorem dX6_readSign_5 : decode cX6_readSign 5 = .ok (.bipush 60, 2) := dq_16 (hz_wg wX6_readSign_0 (j := 5) (n := 16) rfl) (hz_wg wX6_readSign_0 (j := 6) (n := 60) rfl) (by decide)
theorem dX6_readSign_7 : decode cX6_readSign 7 = .ok (.invokevirtual 109, 3) := dq_182 (hz_wg wX6_readSign_0 (j := 7) (n := 182) rfl) (hz_wg wX6_readSign_0 (j := 8) (n := 0) rfl) (hz_wg wX6_readSign_0 (j := 9) (n := 109) rfl) rfl
theorem dX6_readSign_10 : decode cX6_readSign 10 = .ok (.ifCond .eq 7, 3) := dq_153 (hz_wg wX6_readSign_0 (j := 10) (n := 153) rfl) (hz_wg wX6_readSign_0 (j := 11) (n := 0) rfl) (hz_wg wX6_readSign_0 (j := 12) (n := 7) rfl) (by decide)
theorem dX6_readSign_13 : decode cX6_readSign 13 = .ok (.iconst 1, 1) := dq_4 (hz_wg wX6_readSign_0 (j := 13) (n := 4) rfl)
theorem dX6_readSign_14 : decode cX6_readSign 14 = .ok (.goto 17, 3) := dq_167 (hz_wg wX6_readSign_0 (j := 14) (n := 167) rfl) (hz_wg wX6_readSign_0 (j := 15) (n := 0) rfl) (hz_wg wX6_readSign_0 (j := 16) (n := 17) rfl) (by decide)
theorem dX6_readSign_17 : decode cX6_readSign 17 = .ok (.aload_n 0, 1) := dq_42 (hz_wg wX6_readSign_0 (j := 17) (n := 42) rfl)
theorem dX6_readSign_18 : decode cX6_readSign 18 = .ok (.bipush 62, 2) := dq_16 (hz_wg wX6_readSign_0 (j := 18) (n := 16) rfl) (hz_wg wX6_readSign_0 (j := 19) (n := 62) rfl) (by decide)
theorem dX6_readSign_20 : decode cX6_readSign 20 = .ok (.invokevirtual 109, 3) := dq_182 (hz_wg wX6_readSign_0 (j := 20) (n := 182) rfl) (hz_wg wX6_readSign_0 (j := 21) (n := 0) rfl) (hz_wg wX6_readSign_0 (j := 22) (n := 109) rfl) rfl
theorem dX6_readSign_23 : decode cX6_readSign 23 = .ok (.ifCond .eq 7, 3) := dq_153 (hz_wg wX6_readSign_0 (j := 23) (n := 153) rfl) (hz_wg wX6_readSign_0 (j := 24) (n := 0) rfl) (hz_wg wX6_readSign_0 (j := 25) (n := 7) rfl) (by decide)
theorem dX6_readSign_26 : decode cX6_readSign 26 = .ok (.iconst 4, 1) := dq_7 (hz_wg wX6_readSign_0 (j := 26) (n := 7) rfl)
theorem dX6_readSign_27 : decode cX6_readSign 27 = .ok (.goto 4, 3) := dq_167 (hz_wg wX6_readSign_0 (j := 27) (n := 167) rfl) (hz_wg wX6_readSign_0 (j := 28) (n := 0) rfl) (hz_wg wX6_readSign_0 (j := 29) (n := 4) rfl) (by decide)
theorem dX6_readSign_30 : decode cX6_readSign 30 = .ok (.iconst 0, 1) := dq_3 (hz_wg wX6_readSign_0 (j := 30) (n := 3) rfl)
theorem dX6_readSign_31 : decode cX6_readSign 31 = .ok (.istore_n 1, 1) := dq_60 (hz_wg wX6_readSign_0 (j := 31) (n := 60) rfl)
theorem dX6_readSign_32 : decode cX6_readSign 32 = .ok (.iload_n 1, 1) := dq_27 (hz_wg wX6_readSign_0 (j := 32) (n := 27) rfl)
theorem dX6_readSign_33 : decode cX6_readSign 33 = .ok (.ifCond .eq 13, 3) := dq_153 (hz_wg wX6_readSign_0 (j := 33) (n := 153) rfl) (hz_wg wX6_readSign_0 (j := 34) (n := 0) rfl) (hz_wg wX6_readSign_0 (j := 35) (n := 13) rfl) (by decide)
theorem dX6_readSign_36 : decode cX6_readSign 36 = .ok (.aload_n 0, 1) := dq_42 (hz_wg wX6_readSign_0 (j := 36) (n := 42) rfl)
theorem dX6_readSign_37 : decode cX6_readSign 37 = .ok (.dup, 1) := dq_89 (hz_wg wX6_readSign_0 (j := 37) (n := 89) rfl)
theorem dX6_readSign_38 : decode cX6_readSign 38 = .ok (.getfield 19, 3) := dq_180 (hz_wg wX6_readSign_0 (j := 38) (n := 180) rfl) (hz_wg wX6_readSign_0 (j := 39) (n := 0) rfl) (hz_wg wX6_readSign_0 (j := 40) (n := 19) rfl) rfl
theorem dX6_readSign_41 : decode cX6_readSign 41 = .ok (.iconst 1, 1) := dq_4 (hz_wg wX6_readSign_0 (j := 41) (n := 4) rfl)
theorem dX6_readSign_42 : decode cX6_readSign 42 = .ok (.iadd, 1) := dq_96 (hz_wg wX6_readSign_0 (j := 42) (n := 96) rfl)
theorem dX6_readSign_43 : decode cX6_readSign 43 = .ok (.putfield 19, 3) := dq_181 (hz_wg wX6_readSign_0 (j := 43) (n := 181) rfl) (hz_wg wX6_readSign_0 (j := 44) (n := 0) rfl) (hz_wg wX6_readSign_0 (j := 45) (n := 19) rfl) rfl
theorem dX6_readSign_46 : decode cX6_readSign 46 = .ok (.aload_n 0, 1) := dq_42 (hz_wg wX6_readSign_0 (j := 46) (n := 42) rfl)
theorem dX6_readSign_47 : decode cX6_readSign 47 = .ok (.bipush 61, 2) := dq_16 (hz_wg wX6_readSign_0 (j := 47) (n := 16) rfl) (hz_wg wX6_readSign_0 (j := 48) (n := 61) rfl) (by decide)
theorem dX6_readSign_49 : decode cX6_readSign 49 = .ok (.invokevirtual 109, 3) := dq_182 (hz_wg wX6_readSign_0 (j := 49) (n := 182) rfl) (hz_wg wX6_readSign_0 (j := 50) (n := 0) rfl) (hz_wg wX6_readSign_0 (j := 51) (n := 109) rfl) rfl
theorem dX6_readSign_52 : decode cX6_readSign 52 = .ok (.ifCond .eq 17, 3) := dq_153 (hz_wg wX6_readSign_0 (j := 52) (n := 153) rfl) (hz_wg wX6_readSign_0 (j := 53) (n := 0) rfl) (hz_wg wX6_readSign_0 (j := 54) (n := 17) rfl) (by decide)
theorem dX6_readSign_55 : decode cX6_readSign 55 = .ok (.aload_n 0, 1) := dq_42 (hz_wg wX6_readSign_0 (j := 55) (n := 42) rfl)
theorem dX6_readSign_56 : decode cX6_readSign 56 = .ok (.dup, 1) := dq_89 (hz_wg wX6_readSign_0 (j := 56) (n := 89) rfl)
theorem dX6_readSign_57 : decode cX6_readSign 57 = .ok (.getfield 19, 3) := dq_180 (hz_wg wX6_readSign_0 (j := 57) (n := 180) rfl) (hz_wg wX6_readSign_0 (j := 58) (n := 0) rfl) (hz_wg wX6_readSign_0 (j := 59) (n := 19) rfl) rfl
theorem dX6_readSign_60 : decode cX6_readSign 60 = .ok (.iconst 1, 1) := dq_4 (hz_wg wX6_readSign_0 (j := 60) (n := 4) rfl)
theorem dX6_readSign_61 : decode cX6_readSign 61 = .ok (.iadd, 1) := dq_96 (hz_wg wX6_readSign_0 (j := 61) (n := 96) rfl)
theorem dX6_readSign_62 : decode cX6_readSign 62 = .ok (.putfield 19, 3) := dq_181 (hz_wg wX6_readSign_0 (j := 62) (n := 181) rfl) (hz_wg wX6_readSign_0 (j := 63) (n := 0) rfl) (hz_wg wX6_readSign_1 (j := 0) (n := 19) rfl) rfl
theorem dX6_readSign_65 : decode cX6_readSign 65 = .ok (.iload_n 1, 1) := dq_27 (hz_wg wX6_readSign_1 (j := 1) (n := 27) rfl)
theorem dX6_readSign_66 : decode cX6_readSign 66 = .ok (.iconst 2, 1) := dq_5 (hz_wg wX6_readSign_1 (j := 2) (n := 5) rfl)
theorem dX6_readSign_67 : decode cX6_readSign 67 = .ok (.ior, 1) := dq_128 (hz_wg wX6_readSign_1 (j := 3) (n := 128) rfl)
theorem dX6_readSign_68 : decode cX6_readSign 68 = .ok (.istore_n 1, 1) := dq_60 (hz_wg wX6_readSign_1 (j := 4) (n := 60) rfl)
theorem dX6_readSign_69 : decode cX6_readSign 69 = .ok (.iload_n 1, 1) := dq_27 (hz_wg wX6_readSign_1 (j := 5) (n := 27) rfl)
theorem dX6_readSign_70 : decode cX6_readSign 70 = .ok (.ireturn, 1) := dq_172 (hz_wg wX6_readSign_1 (j := 6) (n := 172) rfl)
def wLX6_readTold_0 : List Nat := [42, 182, 0, 35, 42, 180, 0, 19, 61, 42, 42, 180, 0, 19, 182, 0, 75, 154, 0, 10, 42, 28, 3, 182, 0, 45, 172, 42, 182, 0, 78, 62, 29, 178, 0, 82, 27, 46, 161, 0, 12, 29, 178, 0, 86, 27, 46, 164, 0, 10, 42, 28, 4, 182, 0, 45, 172, 42, 180, 0, 31, 180, 0, 89]
def wLX6_readTold_1 : List Nat := [27, 29, 79, 4, 172]
theorem wX6_readTold_0 : (cX6_readTold.data.toList.map UInt8.toNat).drop 0 = wLX6_readTold_0 ++ (wLX6_readTold_1 ++ ([])) := by decide +kernel
theorem wX6_readTold_1 : (cX6_readTold.data.toList.map UInt8.toNat).drop 64 = wLX6_readTold_1 ++ ([]) := hz_wn wX6_readTold_0 rfl
theorem dX6_readTold_0 : decode cX6_readTold 0 = .ok (.aload_n 0, 1) := dq_42 (hz_wg wX6_readTold_0 (j := 0) (n := 42) rfl)
theorem dX6_readTold_1 : decode cX6_readTold 1 = .ok (.invokevirtual 35, 3) := dq_182 (hz_wg wX6_readTold_0 (j := 1) (n := 182) rfl) (hz_wg wX6_readTold_0 (j := 2) (n := 0) rfl) (hz_wg wX6_readTold_0 (j := 3) (n := 35) rfl) rfl
theorem dX6_readTold_4 : decode cX6_readTold 4 = .ok (.aload_n 0, 1) := dq_42 (hz_wg wX6_readTold_0 (j := 4) (n := 42) rfl)
theorem dX6_readTold_5 : decode cX6_readTold 5 = .ok (.getfield 19, 3) := dq_180 (hz_wg wX6_readTold_0 (j := 5) (n := 180) rfl) (hz_wg wX6_readTold_0 (j := 6) (n := 0) rfl) (hz_wg wX6_readTold_0 (j := 7) (n := 19) rfl) rfl
theorem dX6_readTold_8 : decode cX6_readTold 8 = .ok (.istore_n 2, 1) := dq_61 (hz_wg wX6_readTold_0 (j := 8) (n := 61) rfl)
theorem dX6_readTold_9 : decode cX6_readTold 9 = .ok (.aload_n 0, 1) := dq_42 (hz_wg wX6_readTold_0 (j := 9) (n := 42) rfl)
theorem dX6_readTold_10 : decode cX6_readTold 10 = .ok (.aload_n 0, 1) := dq_42 (hz_wg wX6_readTold_0 (j := 10) (n := 42) rfl)
theorem dX6_readTold_11 : decode cX6_readTold 11 = .ok (.getfield 19, 3) := dq_180 (hz_wg wX6_readTold_0 (j := 11) (n := 180) rfl) (hz_wg wX6_readTold_0 (j := 12) (n := 0) rfl) (hz_wg wX6_readTold_0 (j := 13) (n := 19) rfl) rfl
theorem dX6_readTold_14 : decode cX6_readTold 14 = .ok (.invokevirtual 75, 3) := dq_182 (hz_wg wX6_readTold_0 (j := 14) (n := 182) rfl) (hz_wg wX6_readTold_0 (j := 15) (n := 0) rfl) (hz_wg wX6_readTold_0 (j := 16) (n := 75) rfl) rfl
theorem dX6_readTold_17 : decode cX6_readTold 17 = .ok (.ifCond .ne 10, 3) := dq_154 (hz_wg wX6_readTold_0 (j := 17) (n := 154) rfl) (hz_wg wX6_readTold_0 (j := 18) (n := 0) rfl) (hz_wg wX6_readTold_0 (j := 19) (n := 10) rfl) (by decide)
theorem dX6_readTold_20 : decode cX6_readTold 20 = .ok (.aload_n 0, 1) := dq_42 (hz_wg wX6_readTold_0 (j := 20) (n := 42) rfl)
theorem dX6_readTold_21 : decode cX6_readTold 21 = .ok (.iload_n 2, 1) := dq_28 (hz_wg wX6_readTold_0 (j := 21) (n := 28) rfl)
theorem dX6_readTold_22 : decode cX6_readTold 22 = .ok (.iconst 0, 1) := dq_3 (hz_wg wX6_readTold_0 (j := 22) (n := 3) rfl)
theorem dX6_readTold_23 : decode cX6_readTold 23 = .ok (.invokevirtual 45, 3) := dq_182 (hz_wg wX6_readTold_0 (j := 23) (n := 182) rfl) (hz_wg wX6_readTold_0 (j := 24) (n := 0) rfl) (hz_wg wX6_readTold_0 (j := 25) (n := 45) rfl) rfl
theorem dX6_readTold_26 : decode cX6_readTold 26 = .ok (.ireturn, 1) := dq_172 (hz_wg wX6_readTold_0 (j := 26) (n := 172) rfl)
theorem dX6_readTold_27 : decode cX6_readTold 27 = .ok (.aload_n 0, 1) := dq_42 (hz_wg wX6_readTold_0 (j := 27) (n := 42) rfl)
theorem dX6_readTold_28 : decode cX6_readTold 28 = .ok (.invokevirtual 78, 3) := dq_182 (hz_wg wX6_readTold_0 (j := 28) (n := 182) rfl) (hz_wg wX6_readTold_0 (j := 29) (n := 0) rfl) (hz_wg wX6_readTold_0 (j := 30) (n := 78) rfl) rfl
theorem dX6_readTold_31 : decode cX6_readTold 31 = .ok (.istore_n 3, 1) := dq_62 (hz_wg wX6_readTold_0 (j := 31) (n := 62) rfl)
theorem dX6_readTold_32 : decode cX6_readTold 32 = .ok (.iload_n 3, 1) := dq_29 (hz_wg wX6_readTold_0 (j := 32) (n := 29) rfl)
theorem dX6_readTold_33 : decode cX6_readTold 33 = .ok (.getstatic 82, 3) := dq_178 (hz_wg wX6_readTold_0 (j := 33) (n := 178) rfl) (hz_wg wX6_readTold_0 (j := 34) (n := 0) rfl) (hz_wg wX6_readTold_0 (j := 35) (n := 82) rfl) rfl
theorem dX6_readTold_36 : decode cX6_readTold 36 = .ok (.iload_n 1, 1) := dq_27 (hz_wg wX6_readTold_0 (j := 36) (n := 27) rfl)
theorem dX6_readTold_37 : decode cX6_readTold 37 = .ok (.iaload, 1) := dq_46 (hz_wg wX6_readTold_0 (j := 37) (n := 46) rfl)
theorem dX6_readTold_38 : decode cX6_readTold 38 = .ok (.if_icmp .lt 12, 3) := dq_161 (hz_wg wX6_readTold_0 (j := 38) (n := 161) rfl) (hz_wg wX6_readTold_0 (j := 39) (n := 0) rfl) (hz_wg wX6_readTold_0 (j := 40) (n := 12) rfl) (by decide)
theorem dX6_readTold_41 : decode cX6_readTold 41 = .ok (.iload_n 3, 1) := dq_29 (hz_wg wX6_readTold_0 (j := 41) (n := 29) rfl)
theorem dX6_readTold_42 : decode cX6_readTold 42 = .ok (.getstatic 86, 3) := dq_178 (hz_wg wX6_readTold_0 (j := 42) (n := 178) rfl) (hz_wg wX6_readTold_0 (j := 43) (n := 0) rfl) (hz_wg wX6_readTold_0 (j := 44) (n := 86) rfl) rfl
theorem dX6_readTold_45 : decode cX6_readTold 45 = .ok (.iload_n 1, 1) := dq_27 (hz_wg wX6_readTold_0 (j := 45) (n := 27) rfl)
theorem dX6_readTold_46 : decode cX6_readTold 46 = .ok (.iaload, 1) := dq_46 (hz_wg wX6_readTold_0 (j := 46) (n := 46) rfl)
theorem dX6_readTold_47 : decode cX6_readTold 47 = .ok (.if_icmp .le 10, 3) := dq_164 (hz_wg wX6_readTold_0 (j := 47) (n := 164) rfl) (hz_wg wX6_readTold_0 (j := 48) (n := 0) rfl) (hz_wg wX6_readTold_0 (j := 49) (n := 10) rfl) (by decide)
theorem dX6_readTold_50 : decode cX6_readTold 50 = .ok (.aload_n 0, 1) := dq_42 (hz_wg wX6_readTold_0 (j := 50) (n := 42) rfl)
theorem dX6_readTold_51 : decode cX6_readTold 51 = .ok (.iload_n 2, 1) := dq_28 (hz_wg wX6_readTold_0 (j := 51) (n := 28) rfl)
theorem dX6_readTold_52 : decode cX6_readTold 52 = .ok (.iconst 1, 1) := dq_4 (hz_wg wX6_readTold_0 (j := 52) (n := 4) rfl)
theorem dX6_readTold_53 : decode cX6_readTold 53 = .ok (.invokevirtual 45, 3) := dq_182 (hz_wg wX6_readTold_0 (j := 53) (n := 182) rfl) (hz_wg wX6_readTold_0 (j := 54) (n := 0) rfl) (hz_wg wX6_readTold_0 (j := 55) (n := 45) rfl) rfl
theorem dX6_readTold_56 : decode cX6_readTold 56 = .ok (.ireturn, 1) := dq_172 (hz_wg wX6_readTold_0 (j := 56) (n := 172) rfl)
theorem dX6_readTold_57 : decode cX6_readTold 57 = .ok (.aload_n 0, 1) := dq_42 (hz_wg wX6_readTold_0 (j := 57) (n := 42) rfl)
theorem dX6_readTold_58 : decode cX6_readTold 58 = .ok (.getfield 31, 3) := dq_180 (hz_wg wX6_readTold_0 (j := 58) (n := 180) rfl) (hz_wg wX6_readTold_0 (j := 59) (n := 0) rfl) (hz_wg wX6_readTold_0 (j := 60) (n := 31) rfl) rfl
theorem dX6_readTold_61 : decode cX6_readTold 61 = .ok (.getfield 89, 3) := dq_180 (hz_wg wX6_readTold_0 (j := 61) (n := 180) rfl) (hz_wg wX6_readTold_0 (j := 62) (n := 0) rfl) (hz_wg wX6_readTold_0 (j := 63) (n := 89) rfl) rfl
theorem dX6_readTold_64 : decode cX6_readTold 64 = .ok (.iload_n 1, 1) := dq_27 (hz_wg wX6_readTold_1 (j := 0) (n := 27) rfl)
theorem dX6_readTold_65 : decode cX6_readTold 65 = .ok (.iload_n 3, 1) := dq_29 (hz_wg wX6_readTold_1 (j := 1) (n := 29) rfl)
theorem dX6_readTold_66 : decode cX6_readTold 66 = .ok (.iastore, 1) := dq_79 (hz_wg wX6_readTold_1 (j := 2) (n := 79) rfl)
theorem dX6_readTold_67 : decode cX6_readTold 67 = .ok (.iconst 1, 1) := dq_4 (hz_wg wX6_readTold_1 (j := 3) (n := 4) rfl)
theorem dX6_readTold_68 : decode cX6_readTold 68 = .ok (.ireturn, 1) := dq_172 (hz_wg wX6_readTold_1 (j := 4) (n := 172) rfl)
def wLX6_readCost_0 : List Nat := [42, 182, 0, 35, 42, 180, 0, 19, 60, 42, 18, 73, 182, 0, 51, 61, 28, 156, 0, 10, 42, 27, 3, 182, 0, 45, 172, 42, 16, 10, 28, 96, 27, 182, 0, 63, 153, 0, 18, 42, 16, 10, 28, 96, 182, 0, 70, 153, 0, 7, 4, 167, 0, 4, 3, 172]
theorem wX6_readCost_0 : (cX6_readCost.data.toList.map UInt8.toNat).drop 0 = wLX6_readCost_0 ++ ([]) := by decide +kernel
theorem dX6_readCost_0 : decode cX6_readCost 0 = .ok (.aload_n 0, 1) := dq_42 (hz_wg wX6_readCost_0 (j := 0) (n := 42) rfl)
theorem dX6_readCost_1 : decode cX6_readCost 1 = .ok (.invokevirtual 35, 3) := dq_182 (hz_wg wX6_readCost_0 (j := 1) (n := 182) rfl) (hz_wg wX6_readCost_0 (j := 2) (n := 0) rfl) (hz_wg wX6_readCost_0 (j := 3) (n := 35) rfl) rfl
theorem dX6_readCost_4 : decode cX6_readCost 4 = .ok (.aload_n 0, 1) := dq_42 (hz_wg wX6_readCost_0 (j := 4) (n := 42) rfl)
theorem dX6_readCost_5 : decode cX6_readCost 5 = .ok (.getfield 19, 3) := dq_180 (hz_wg wX6_readCost_0 (j := 5) (n := 180) rfl) (hz_wg wX6_readCost_0 (j := 6) (n := 0) rfl) (hz_wg wX6_readCost_0 (j := 7) (n := 19) rfl) rfl
theorem dX6_readCost_8 : decode cX6_readCost 8 = .ok (.istore_n 1, 1) := dq_60 (hz_wg wX6_readCost_0 (j := 8) (n := 60) rfl)
theorem dX6_readCost_9 : decode cX6_readCost 9 = .ok (.aload_n 0, 1) := dq_42 (hz_wg wX6_readCost_0 (j := 9) (n := 42) rfl)
theorem dX6_readCost_10 : decode cX6_readCost 10 = .ok (.ldc 73, 2) := dq_18 (hz_wg wX6_readCost_0 (j := 10) (n := 18) rfl) (hz_wg wX6_readCost_0 (j := 11) (n := 73) rfl)
theorem dX6_readCost_12 : decode cX6_readCost 12 = .ok (.invokevirtual 51, 3) := dq_182 (hz_wg wX6_readCost_0 (j := 12) (n := 182) rfl) (hz_wg wX6_readCost_0 (j := 13) (n := 0) rfl) (hz_wg wX6_readCost_0 (j := 14) (n := 51) rfl) rfl
theorem dX6_readCost_15 : decode cX6_readCost 15 = .ok (.istore_n 2, 1) := dq_61 (hz_wg wX6_readCost_0 (j := 15) (n := 61) rfl)
theorem dX6_readCost_16 : decode cX6_readCost 16 = .ok (.iload_n 2, 1) := dq_28 (hz_wg wX6_readCost_0 (j := 16) (n := 28) rfl)
theorem dX6_readCost_17 : decode cX6_readCost 17 = .ok (.ifCond .ge 10, 3) := dq_156 (hz_wg wX6_readCost_0 (j := 17) (n := 156) rfl) (hz_wg wX6_readCost_0 (j := 18) (n := 0) rfl) (hz_wg wX6_readCost_0 (j := 19) (n := 10) rfl) (by decide)
theorem dX6_readCost_20 : decode cX6_readCost 20 = .ok (.aload_n 0, 1) := dq_42 (hz_wg wX6_readCost_0 (j := 20) (n := 42) rfl)
theorem dX6_readCost_21 : decode cX6_readCost 21 = .ok (.iload_n 1, 1) := dq_27 (hz_wg wX6_readCost_0 (j := 21) (n := 27) rfl)
theorem dX6_readCost_22 : decode cX6_readCost 22 = .ok (.iconst 0, 1) := dq_3 (hz_wg wX6_readCost_0 (j := 22) (n := 3) rfl)
theorem dX6_readCost_23 : decode cX6_readCost 23 = .ok (.invokevirtual 45, 3) := dq_182 (hz_wg wX6_readCost_0 (j := 23) (n := 182) rfl) (hz_wg wX6_readCost_0 (j := 24) (n := 0) rfl) (hz_wg wX6_readCost_0 (j := 25) (n := 45) rfl) rfl
theorem dX6_readCost_26 : decode cX6_readCost 26 = .ok (.ireturn, 1) := dq_172 (hz_wg wX6_readCost_0 (j := 26) (n := 172) rfl)
theorem dX6_readCost_27 : decode cX6_readCost 27 = .ok (.aload_n 0, 1) := dq_42 (hz_wg wX6_readCost_0 (j := 27) (n := 42) rfl)
theorem dX6_readCost_28 : decode cX6_readCost 28 = .ok (.bipush 10, 2) := dq_16 (hz_wg wX6_readCost_0 (j := 28) (n := 16) rfl) (hz_wg wX6_readCost_0 (j := 29) (n := 10) rfl) (by decide)
theorem dX6_readCost_30 : decode cX6_readCost 30 = .ok (.iload_n 2, 1) := dq_28 (hz_wg wX6_readCost_0 (j := 30) (n := 28) rfl)
theorem dX6_readCost_31 : decode cX6_readCost 31 = .ok (.iadd, 1) := dq_96 (hz_wg wX6_readCost_0 (j := 31) (n := 96) rfl)
theorem dX6_readCost_32 : decode cX6_readCost 32 = .ok (.iload_n 1, 1) := dq_27 (hz_wg wX6_readCost_0 (j := 32) (n := 27) rfl)
theorem dX6_readCost_33 : decode cX6_readCost 33 = .ok (.invokevirtual 63, 3) := dq_182 (hz_wg wX6_readCost_0 (j := 33) (n := 182) rfl) (hz_wg wX6_readCost_0 (j := 34) (n := 0) rfl) (hz_wg wX6_readCost_0 (j := 35) (n := 63) rfl) rfl
theorem dX6_readCost_36 : decode cX6_readCost 36 = .ok (.ifCond .eq 18, 3) := dq_153 (hz_wg wX6_readCost_0 (j := 36) (n := 153) rfl) (hz_wg wX6_readCost_0 (j := 37) (n := 0) rfl) (hz_wg wX6_readCost_0 (j := 38) (n := 18) rfl) (by decide)
theorem dX6_readCost_39 : decode cX6_readCost 39 = .ok (.aload_n 0, 1) := dq_42 (hz_wg wX6_readCost_0 (j := 39) (n := 42) rfl)
theorem dX6_readCost_40 : decode cX6_readCost 40 = .ok (.bipush 10, 2) := dq_16 (hz_wg wX6_readCost_0 (j := 40) (n := 16) rfl) (hz_wg wX6_readCost_0 (j := 41) (n := 10) rfl) (by decide)
theorem dX6_readCost_42 : decode cX6_readCost 42 = .ok (.iload_n 2, 1) := dq_28 (hz_wg wX6_readCost_0 (j := 42) (n := 28) rfl)
theorem dX6_readCost_43 : decode cX6_readCost 43 = .ok (.iadd, 1) := dq_96 (hz_wg wX6_readCost_0 (j := 43) (n := 96) rfl)
theorem dX6_readCost_44 : decode cX6_readCost 44 = .ok (.invokevirtual 70, 3) := dq_182 (hz_wg wX6_readCost_0 (j := 44) (n := 182) rfl) (hz_wg wX6_readCost_0 (j := 45) (n := 0) rfl) (hz_wg wX6_readCost_0 (j := 46) (n := 70) rfl) rfl
theorem dX6_readCost_47 : decode cX6_readCost 47 = .ok (.ifCond .eq 7, 3) := dq_153 (hz_wg wX6_readCost_0 (j := 47) (n := 153) rfl) (hz_wg wX6_readCost_0 (j := 48) (n := 0) rfl) (hz_wg wX6_readCost_0 (j := 49) (n := 7) rfl) (by decide)
theorem dX6_readCost_50 : decode cX6_readCost 50 = .ok (.iconst 1, 1) := dq_4 (hz_wg wX6_readCost_0 (j := 50) (n := 4) rfl)
theorem dX6_readCost_51 : decode cX6_readCost 51 = .ok (.goto 4, 3) := dq_167 (hz_wg wX6_readCost_0 (j := 51) (n := 167) rfl) (hz_wg wX6_readCost_0 (j := 52) (n := 0) rfl) (hz_wg wX6_readCost_0 (j := 53) (n := 4) rfl) (by decide)
theorem dX6_readCost_54 : decode cX6_readCost 54 = .ok (.iconst 0, 1) := dq_3 (hz_wg wX6_readCost_0 (j := 54) (n := 3) rfl)
theorem dX6_readCost_55 : decode cX6_readCost 55 = .ok (.ireturn, 1) := dq_172 (hz_wg wX6_readCost_0 (j := 55) (n := 172) rfl)