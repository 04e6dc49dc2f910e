def wLX10_begins_0 : List Nat := [42, 182, 0, 248, 60, 42, 182, 1, 21, 61, 27, 16, 40, 159, 0, 14, 28, 5, 159, 0, 9, 42, 28, 182, 1, 34, 172, 42, 182, 1, 37, 16, 8, 160, 0, 13, 42, 6, 42, 180, 0, 245, 182, 0, 255, 172, 42, 180, 0, 32, 42, 180, 1, 9, 27, 16, 40, 160, 0, 8, 16, 100, 167, 0]
def wLX10_begins_1 : List Nat := [4, 5, 79, 42, 89, 180, 1, 9, 4, 96, 181, 1, 9, 42, 89, 180, 0, 245, 27, 16, 40, 160, 0, 7, 4, 167, 0, 4, 6, 96, 181, 0, 245, 167, 255, 159]
theorem wX10_begins_0 : (cX10_begins.data.toList.map UInt8.toNat).drop 0 = wLX10_begins_0 ++ (wLX10_begins_1 ++ ([])) := by decide +kernel
theorem wX10_begins_1 : (cX10_begins.data.toList.map UInt8.toNat).drop 64 = wLX10_begins_1 ++ ([]) := hz_wn wX10_begins_0 rfl
theorem dX10_begins_0 : decode cX10_begins 0 = .ok (.aload_n 0, 1) := dq_42 (hz_wg wX10_begins_0 (j := 0) (n := 42) rfl)
theorem dX10_begins_1 : decode cX10_begins 1 = .ok (.invokevirtual 248, 3) := dq_182 (hz_wg wX10_begins_0 (j := 1) (n := 182) rfl) (hz_wg wX10_begins_0 (j := 2) (n := 0) rfl) (hz_wg wX10_begins_0 (j := 3) (n := 248) rfl) rfl
theorem dX10_begins_4 : decode cX10_begins 4 = .ok (.istore_n 1, 1) := dq_60 (hz_wg wX10_begins_0 (j := 4) (n := 60) rfl)
theorem dX10_begins_5 : decode cX10_begins 5 = .ok (.aload_n 0, 1) := dq_42 (hz_wg wX10_begins_0 (j := 5) (n := 42) rfl)
theorem dX10_begins_6 : decode cX10_begins 6 = .ok (.invokevirtual 277, 3) := dq_182 (hz_wg wX10_begins_0 (j := 6) (n := 182) rfl) (hz_wg wX10_begins_0 (j := 7) (n := 1) rfl) (hz_wg wX10_begins_0 (j := 8) (n := 21) rfl) rfl
theorem dX10_begins_9 : decode cX10_begins 9 = .ok (.istore_n 2, 1) := dq_61 (hz_wg wX10_begins_0 (j := 9) (n := 61) rfl)
theorem dX10_begins_10 : decode cX10_begins 10 = .ok (.iload_n 1, 1) := dq_27 (hz_wg wX10_begins_0 (j := 10) (n := 27) rfl)
theorem dX10_begins_11 : decode cX10_begins 11 = .ok (.bipush 40, 2) := dq_16 (hz_wg wX10_begins_0 (j := 11) (n := 16) rfl) (hz_wg wX10_begins_0 (j := 12) (n := 40) rfl) (by decide)
theorem dX10_begins_13 : decode cX10_begins 13 = .ok (.if_icmp .eq 14, 3) := dq_159 (hz_wg wX10_begins_0 (j := 13) (n := 159) rfl) (hz_wg wX10_begins_0 (j := 14) (n := 0) rfl) (hz_wg wX10_begins_0 (j := 15) (n := 14) rfl) (by decide)
theorem dX10_begins_16 : decode cX10_begins 16 = .ok (.iload_n 2, 1) := dq_28 (hz_wg wX10_begins_0 (j := 16) (n := 28) rfl)
theorem dX10_begins_17 : decode cX10_begins 17 = .ok (.iconst 2, 1) := dq_5 (hz_wg wX10_begins_0 (j := 17) (n := 5) rfl)
theorem dX10_begins_18 : decode cX10_begins 18 = .ok (.if_icmp .eq 9, 3) := dq_159 (hz_wg wX10_begins_0 (j := 18) (n := 159) rfl) (hz_wg wX10_begins_0 (j := 19) (n := 0) rfl) (hz_wg wX10_begins_0 (j := 20) (n := 9) rfl) (by decide)
theorem dX10_begins_21 : decode cX10_begins 21 = .ok (.aload_n 0, 1) := dq_42 (hz_wg wX10_begins_0 (j := 21) (n := 42) rfl)
theorem dX10_begins_22 : decode cX10_begins 22 = .ok (.iload_n 2, 1) := dq_28 (hz_wg wX10_begins_0 (j := 22) (n := 28) rfl)
theorem dX10_begins_23 : decode cX10_begins 23 = .ok (.invokevirtual 290, 3) := dq_182 (hz_wg wX10_begins_0 (j := 23) (n := 182) rfl) (hz_wg wX10_begins_0 (j := 24) (n := 1) rfl) (hz_wg wX10_begins_0 (j := 25) (n := 34) rfl) rfl
theorem dX10_begins_26 : decode cX10_begins 26 = .ok (.ireturn, 1) := dq_172 (hz_wg wX10_begins_0 (j := 26) (n := 172) rfl)
theorem dX10_begins_27 : decode cX10_begins 27 = .ok (.aload_n 0, 1) := dq_42 (hz_wg wX10_begins_0 (j := 27) (n := 42) rfl)
theorem dX10_begins_28 : decode cX10_begins 28 = .ok (.invokevirtual 293, 3) := dq_182 (hz_wg wX10_begins_0 (j := 28) (n := 182) rfl) (hz_wg wX10_begins_0 (j := 29) (n := 1) rfl) (hz_wg wX10_begins_0 (j := 30) (n := 37) rfl) rfl
theorem dX10_begins_31 : decode cX10_begins 31 = .ok (.bipush 8, 2) := dq_16 (hz_wg wX10_begins_0 (j := 31) (n := 16) rfl) (hz_wg wX10_begins_0 (j := 32) (n := 8) rfl) (by decide)
theorem dX10_begins_33 : decode cX10_begins 33 = .ok (.if_icmp .ne 13, 3) := dq_160 (hz_wg wX10_begins_0 (j := 33) (n := 160) rfl) (hz_wg wX10_begins_0 (j := 34) (n := 0) rfl) (hz_wg wX10_begins_0 (j := 35) (n := 13) rfl) (by decide)
theorem dX10_begins_36 : decode cX10_begins 36 = .ok (.aload_n 0, 1) := dq_42 (hz_wg wX10_begins_0 (j := 36) (n := 42) rfl)
theorem dX10_begins_37 : decode cX10_begins 37 = .ok (.iconst 3, 1) := dq_6 (hz_wg wX10_begins_0 (j := 37) (n := 6) rfl)
theorem dX10_begins_38 : decode cX10_begins 38 = .ok (.aload_n 0, 1) := dq_42 (hz_wg wX10_begins_0 (j := 38) (n := 42) rfl)
theorem dX10_begins_39 : decode cX10_begins 39 = .ok (.getfield 245, 3) := dq_180 (hz_wg wX10_begins_0 (j := 39) (n := 180) rfl) (hz_wg wX10_begins_0 (j := 40) (n := 0) rfl) (hz_wg wX10_begins_0 (j := 41) (n := 245) rfl) rfl
theorem dX10_begins_42 : decode cX10_begins 42 = .ok (.invokevirtual 255, 3) := dq_182 (hz_wg wX10_begins_0 (j := 42) (n := 182) rfl) (hz_wg wX10_begins_0 (j := 43) (n := 0) rfl) (hz_wg wX10_begins_0 (j := 44) (n := 255) rfl) rfl
theorem dX10_begins_45 : decode cX10_begins 45 = .ok (.ireturn, 1) := dq_172 (hz_wg wX10_begins_0 (j := 45) (n := 172) rfl)
theorem dX10_begins_46 : decode cX10_begins 46 = .ok (.aload_n 0, 1) := dq_42 (hz_wg wX10_begins_0 (j := 46) (n := 42) rfl)
theorem dX10_begins_47 : decode cX10_begins 47 = .ok (.getfield 32, 3) := dq_180 (hz_wg wX10_begins_0 (j := 47) (n := 180) rfl) (hz_wg wX10_begins_0 (j := 48) (n := 0) rfl) (hz_wg wX10_begins_0 (j := 49) (n := 32) rfl) rfl
theorem dX10_begins_50 : decode cX10_begins 50 = .ok (.aload_n 0, 1) := dq_42 (hz_wg wX10_begins_0 (j := 50) (n := 42) rfl)
theorem dX10_begins_51 : decode cX10_begins 51 = .ok (.getfield 265, 3) := dq_180 (hz_wg wX10_begins_0 (j := 51) (n := 180) rfl) (hz_wg wX10_begins_0 (j := 52) (n := 1) rfl) (hz_wg wX10_begins_0 (j := 53) (n := 9) rfl) rfl
theorem dX10_begins_54 : decode cX10_begins 54 = .ok (.iload_n 1, 1) := dq_27 (hz_wg wX10_begins_0 (j := 54) (n := 27) rfl)
theorem dX10_begins_55 : decode cX10_begins 55 = .ok (.bipush 40, 2) := dq_16 (hz_wg wX10_begins_0 (j := 55) (n := 16) rfl) (hz_wg wX10_begins_0 (j := 56) (n := 40) rfl) (by decide)
theorem dX10_begins_57 : decode cX10_begins 57 = .ok (.if_icmp .ne 8, 3) := dq_160 (hz_wg wX10_begins_0 (j := 57) (n := 160) rfl) (hz_wg wX10_begins_0 (j := 58) (n := 0) rfl) (hz_wg wX10_begins_0 (j := 59) (n := 8) rfl) (by decide)
theorem dX10_begins_60 : decode cX10_begins 60 = .ok (.bipush 100, 2) := dq_16 (hz_wg wX10_begins_0 (j := 60) (n := 16) rfl) (hz_wg wX10_begins_0 (j := 61) (n := 100) rfl) (by decide)
theorem dX10_begins_62 : decode cX10_begins 62 = .ok (.goto 4, 3) := dq_167 (hz_wg wX10_begins_0 (j := 62) (n := 167) rfl) (hz_wg wX10_begins_0 (j := 63) (n := 0) rfl) (hz_wg wX10_begins_1 (j := 0) (n := 4) rfl) (by decide)
theorem dX10_begins_65 : decode cX10_begins 65 = .ok (.iconst 2, 1) := dq_5 (hz_wg wX10_begins_1 (j := 1) (n := 5) rfl)
theorem dX10_begins_66 : decode cX10_begins 66 = .ok (.iastore, 1) := dq_79 (hz_wg wX10_begins_1 (j := 2) (n := 79) rfl)
theorem dX10_begins_67 : decode cX10_begins 67 = .ok (.aload_n 0, 1) := dq_42 (hz_wg wX10_begins_1 (j := 3) (n := 42) rfl)
theorem dX10_begins_68 : decode cX10_begins 68 = .ok (.dup, 1) := dq_89 (hz_wg wX10_begins_1 (j := 4) (n := 89) rfl)
theorem dX10_begins_69 : decode cX10_begins 69 = .ok (.getfield 265, 3) := dq_180 (hz_wg wX10_begins_1 (j := 5) (n := 180) rfl) (hz_wg wX10_begins_1 (j := 6) (n := 1) rfl) (hz_wg wX10_begins_1 (j := 7) (n := 9) rfl) rfl
theorem dX10_begins_72 : decode cX10_begins 72 = .ok (.iconst 1, 1) := dq_4 (hz_wg wX10_begins_1 (j := 8) (n := 4) rfl)
theorem dX10_begins_73 : decode cX10_begins 73 = .ok (.iadd, 1) := dq_96 (hz_wg wX10_begins_1 (j := 9) (n := 96) rfl)
theorem dX10_begins_74 : decode cX10_begins 74 = .ok (.putfield 265, 3) := dq_181 (hz_wg wX10_begins_1 (j := 10) (n := 181) rfl) (hz_wg wX10_begins_1 (j := 11) (n := 1) rfl) (hz_wg wX10_begins_1 (j := 12) (n := 9) rfl) rfl
theorem dX10_begins_77 : decode cX10_begins 77 = .ok (.aload_n 0, 1) := dq_42 (hz_wg wX10_begins_1 (j := 13) (n := 42) rfl)
theorem dX10_begins_78 : decode cX10_begins 78 = .ok (.dup, 1) := dq_89 (hz_wg wX10_begins_1 (j := 14) (n := 89) rfl)
theorem dX10_begins_79 : decode cX10_begins 79 = .ok (.getfield 245, 3) := dq_180 (hz_wg wX10_begins_1 (j := 15) (n := 180) rfl) (hz_wg wX10_begins_1 (j := 16) (n := 0) rfl) (hz_wg wX10_begins_1 (j := 17) (n := 245) rfl) rfl
theorem dX10_begins_82 : decode cX10_begins 82 = .ok (.iload_n 1, 1) := dq_27 (hz_wg wX10_begins_1 (j := 18) (n := 27) rfl)
theorem dX10_begins_83 : decode cX10_begins 83 = .ok (.bipush 40, 2) := dq_16 (hz_wg wX10_begins_1 (j := 19) (n := 16) rfl) (hz_wg wX10_begins_1 (j := 20) (n := 40) rfl) (by decide)
theorem dX10_begins_85 : decode cX10_begins 85 = .ok (.if_icmp .ne 7, 3) := dq_160 (hz_wg wX10_begins_1 (j := 21) (n := 160) rfl) (hz_wg wX10_begins_1 (j := 22) (n := 0) rfl) (hz_wg wX10_begins_1 (j := 23) (n := 7) rfl) (by decide)
theorem dX10_begins_88 : decode cX10_begins 88 = .ok (.iconst 1, 1) := dq_4 (hz_wg wX10_begins_1 (j := 24) (n := 4) rfl)
theorem dX10_begins_89 : decode cX10_begins 89 = .ok (.goto 4, 3) := dq_167 (hz_wg wX10_begins_1 (j := 25) (n := 167) rfl) (hz_wg wX10_begins_1 (j := 26) (n := 0) rfl) (hz_wg wX10_begins_1 (j := 27) (n := 4) rfl) (by decide)
theorem dX10_begins_92 : decode cX10_begins 92 = .ok (.iconst 3, 1) := dq_6 (hz_wg wX10_begins_1 (j := 28) (n := 6) rfl)
theorem dX10_begins_93 : decode cX10_begins 93 = .ok (.iadd, 1) := dq_96 (hz_wg wX10_begins_1 (j := 29) (n := 96) rfl)
theorem dX10_begins_94 : decode cX10_begins 94 = .ok (.putfield 245, 3) := dq_181 (hz_wg wX10_begins_1 (j := 30) (n := 181) rfl) (hz_wg wX10_begins_1 (j := 31) (n := 0) rfl) (hz_wg wX10_begins_1 (j := 32) (n := 245) rfl) rfl
theorem dX10_begins_97 : decode cX10_begins 97 = .ok (.goto (-97), 3) := dq_167 (hz_wg wX10_begins_1 (j := 33) (n := 167) rfl) (hz_wg wX10_begins_1 (j := 34) (n := 255) rfl) (hz_wg wX10_begins_1 (j := 35) (n := 159) rfl) (by decide)
theorem dX10_clears_0 : decode cX10_clears 0 = .ok (.aload_n 0, 1) := by decide +kernel
theorem dX10_clears_1 : decode cX10_clears 1 = .ok (.iconst 0, 1) := by decide +kernel
theorem dX10_clears_2 : decode cX10_clears 2 = .ok (.putfield 262, 3) := by decide +kernel
theorem dX10_clears_5 : decode cX10_clears 5 = .ok (.aload_n 0, 1) := by decide +kernel
theorem dX10_clears_6 : decode cX10_clears 6 = .ok (.iconst 0, 1) := by decide +kernel
theorem dX10_clears_7 : decode cX10_clears 7 = .ok (.putfield 274, 3) := by decide +kernel
theorem dX10_clears_10 : decode cX10_clears 10 = .ok (.aload_n 0, 1) := by decide +kernel
theorem dX10_clears_11 : decode cX10_clears 11 = .ok (.iconst 0, 1) := by decide +kernel
theorem dX10_clears_12 : decode cX10_clears 12 = .ok (.putfield 265, 3) := by decide +kernel
theorem dX10_clears_15 : decode cX10_clears 15 = .ok (.return_, 1) := by decide +kernel
def wLX10_either_0 : List Nat := [42, 182, 0, 218, 4, 60, 27, 153, 0, 12, 42, 182, 1, 40, 154, 0, 5, 3, 172, 27, 153, 0, 7, 42, 182, 1, 44, 3, 60, 42, 182, 0, 248, 61, 42, 182, 1, 21, 62, 29, 4, 159, 0, 7, 29, 154, 0, 46, 42, 29, 182, 1, 47, 42, 180, 0, 32, 42, 180, 1, 9, 29, 79, 42]
def wLX10_either_1 : List Nat := [89, 180, 1, 9, 4, 96, 181, 1, 9, 42, 89, 180, 0, 245, 42, 180, 0, 252, 96, 181, 0, 245, 4, 60, 167, 0, 88, 28, 16, 41, 160, 0, 52, 42, 3, 182, 1, 47, 42, 180, 1, 9, 154, 0, 13, 42, 3, 42, 180, 0, 245, 182, 0, 255, 172, 42, 89, 180, 1, 9, 4, 100, 181, 1]
def wLX10_either_2 : List Nat := [9, 42, 89, 180, 0, 245, 4, 96, 181, 0, 245, 42, 182, 1, 44, 167, 0, 33, 42, 3, 182, 1, 47, 42, 180, 1, 9, 153, 0, 15, 42, 3, 42, 180, 0, 245, 182, 0, 255, 153, 0, 7, 4, 167, 0, 4, 3, 172, 167, 255, 86]
theorem wX10_either_0 : (cX10_either.data.toList.map UInt8.toNat).drop 0 = wLX10_either_0 ++ (wLX10_either_1 ++ (wLX10_either_2 ++ ([]))) := by decide +kernel
theorem wX10_either_1 : (cX10_either.data.toList.map UInt8.toNat).drop 64 = wLX10_either_1 ++ (wLX10_either_2 ++ ([])) := hz_wn wX10_either_0 rfl
theorem wX10_either_2 : (cX10_either.data.toList.map UInt8.toNat).drop 128 = wLX10_either_2 ++ ([]) := hz_wn wX10_either_1 rfl
theorem dX10_either_0 : decode cX10_either 0 = .ok (.aload_n 0, 1) := dq_42 (hz_wg wX10_either_0 (j := 0) (n := 42) rfl)
theorem dX10_either_1 : decode cX10_either 1 = .ok (.invokevirtual 218, 3) := dq_182 (hz_wg wX10_either_0 (j := 1) (n := 182) rfl) (hz_wg wX10_either_0 (j := 2) (n := 0) rfl) (hz_wg wX10_either_0 (j := 3) (n := 218) rfl) rfl
theorem dX10_either_4 : decode cX10_either 4 = .ok (.iconst 1, 1) := dq_4 (hz_wg wX10_either_0 (j := 4) (n := 4) rfl)
theorem dX10_either_5 : decode cX10_either 5 = .ok (.istore_n 1, 1) := dq_60 (hz_wg wX10_either_0 (j := 5) (n := 60) rfl)
theorem dX10_either_6 : decode cX10_either 6 = .ok (.iload_n 1, 1) := dq_27 (hz_wg wX10_either_0 (j := 6) (n := 27) rfl)
theorem dX10_either_7 : decode cX10_either 7 = .ok (.ifCond .eq 12, 3) := dq_153 (hz_wg wX10_either_0 (j := 7) (n := 153) rfl) (hz_wg wX10_either_0 (j := 8) (n := 0) rfl) (hz_wg wX10_either_0 (j := 9) (n := 12) rfl) (by decide)
theorem dX10_either_10 : decode cX10_either 10 = .ok (.aload_n 0, 1) := dq_42 (hz_wg wX10_either_0 (j := 10) (n := 42) rfl)
theorem dX10_either_11 : decode cX10_either 11 = .ok (.invokevirtual 296, 3) := dq_182 (hz_wg wX10_either_0 (j := 11) (n := 182) rfl) (hz_wg wX10_either_0 (j := 12) (n := 1) rfl) (hz_wg wX10_either_0 (j := 13) (n := 40) rfl) rfl
theorem dX10_either_14 : decode cX10_either 14 = .ok (.ifCond .ne 5, 3) := dq_154 (hz_wg wX10_either_0 (j := 14) (n := 154) rfl) (hz_wg wX10_either_0 (j := 15) (n := 0) rfl) (hz_wg wX10_either_0 (j := 16) (n := 5) rfl) (by decide)
theorem dX10_either_17 : decode cX10_either 17 = .ok (.iconst 0, 1) := dq_3 (hz_wg wX10_either_0 (j := 17) (n := 3) rfl)
theorem dX10_either_18 : decode cX10_either 18 = .ok (.ireturn, 1) := dq_172 (hz_wg wX10_either_0 (j := 18) (n := 172) rfl)
theorem dX10_either_19 : decode cX10_either 19 = .ok (.iload_n 1, 1) := dq_27 (hz_wg wX10_either_0 (j := 19) (n := 27) rfl)
theorem dX10_either_20 : decode cX10_either 20 = .ok (.ifCond .eq 7, 3) := dq_153 (hz_wg wX10_either_0 (j := 20) (n := 153) rfl) (hz_wg wX10_either_0 (j := 21) (n := 0) rfl) (hz_wg wX10_either_0 (j := 22) (n := 7) rfl) (by decide)
theorem dX10_either_23 : decode cX10_either 23 = .ok (.aload_n 0, 1) := dq_42 (hz_wg wX10_either_0 (j := 23) (n := 42) rfl)
theorem dX10_either_24 : decode cX10_either 24 = .ok (.invokevirtual 300, 3) := dq_182 (hz_wg wX10_either_0 (j := 24) (n := 182) rfl) (hz_wg wX10_either_0 (j := 25) (n := 1) rfl) (hz_wg wX10_either_0 (j := 26) (n := 44) rfl) rfl
theorem dX10_either_27 : decode cX10_either 27 = .ok (.iconst 0, 1) := dq_3 (hz_wg wX10_either_0 (j := 27) (n := 3) rfl)
theorem dX10_either_28 : decode cX10_either 28 = .ok (.istore_n 1, 1) := dq_60 (hz_wg wX10_either_0 (j := 28) (n := 60) rfl)
theorem dX10_either_29 : decode cX10_either 29 = .ok (.aload_n 0, 1) := dq_42 (hz_wg wX10_either_0 (j := 29) (n := 42) rfl)
theorem dX10_either_30 : decode cX10_either 30 = .ok (.invokevirtual 248, 3) := dq_182 (hz_wg wX10_either_0 (j := 30) (n := 182) rfl) (hz_wg wX10_either_0 (j := 31) (n := 0) rfl) (hz_wg wX10_either_0 (j := 32) (n := 248) rfl) rfl
theorem dX10_either_33 : decode cX10_either 33 = .ok (.istore_n 2, 1) := dq_61 (hz_wg wX10_either_0 (j := 33) (n := 61) rfl)
theorem dX10_either_34 : decode cX10_either 34 = .ok (.aload_n 0, 1) := dq_42 (hz_wg wX10_either_0 (j := 34) (n := 42) rfl)
theorem dX10_either_35 : decode cX10_either 35 = .ok (.invokevirtual 277, 3) := dq_182 (hz_wg wX10_either_0 (j := 35) (n := 182) rfl) (hz_wg wX10_either_0 (j := 36) (n := 1) rfl) (hz_wg wX10_either_0 (j := 37) (n := 21) rfl) rfl
theorem dX10_either_38 : decode cX10_either 38 = .ok (.istore_n 3, 1) := dq_62 (hz_wg wX10_either_0 (j := 38) (n := 62) rfl)
theorem dX10_either_39 : decode cX10_either 39 = .ok (.iload_n 3, 1) := dq_29 (hz_wg wX10_either_0 (j := 39) (n := 29) rfl)
theorem dX10_either_40 : decode cX10_either 40 = .ok (.iconst 1, 1) := dq_4 (hz_wg wX10_either_0 (j := 40) (n := 4) rfl)
theorem dX10_either_41 : decode cX10_either 41 = .ok (.if_icmp .eq 7, 3) := dq_159 (hz_wg wX10_either_0 (j := 41) (n := 159) rfl) (hz_wg wX10_either_0 (j := 42) (n := 0) rfl) (hz_wg wX10_either_0 (j := 43) (n := 7) rfl) (by decide)
theorem dX10_either_44 : decode cX10_either 44 = .ok (.iload_n 3, 1) := dq_29 (hz_wg wX10_either_0 (j := 44) (n := 29) rfl)
theorem dX10_either_45 : decode cX10_either 45 = .ok (.ifCond .ne 46, 3) := dq_154 (hz_wg wX10_either_0 (j := 45) (n := 154) rfl) (hz_wg wX10_either_0 (j := 46) (n := 0) rfl) (hz_wg wX10_either_0 (j := 47) (n := 46) rfl) (by decide)
theorem dX10_either_48 : decode cX10_either 48 = .ok (.aload_n 0, 1) := dq_42 (hz_wg wX10_either_0 (j := 48) (n := 42) rfl)
theorem dX10_either_49 : decode cX10_either 49 = .ok (.iload_n 3, 1) := dq_29 (hz_wg wX10_either_0 (j := 49) (n := 29) rfl)
theorem dX10_either_50 : decode cX10_either 50 = .ok (.invokevirtual 303, 3) := dq_182 (hz_wg wX10_either_0 (j := 50) (n := 182) rfl) (hz_wg wX10_either_0 (j := 51) (n := 1) rfl) (hz_wg wX10_either_0 (j := 52) (n := 47) rfl) rfl
theorem dX10_either_53 : decode cX10_either 53 = .ok (.aload_n 0, 1) := dq_42 (hz_wg wX10_either_0 (j := 53) (n := 42) rfl)
theorem dX10_either_54 : decode cX10_either 54 = .ok (.getfield 32, 3) := dq_180 (hz_wg wX10_either_0 (j := 54) (n := 180) rfl) (hz_wg wX10_either_0 (j := 55) (n := 0) rfl) (hz_wg wX10_either_0 (j := 56) (n := 32) rfl) rfl
theorem dX10_either_57 : decode cX10_either 57 = .ok (.aload_n 0, 1) := dq_42 (hz_wg wX10_either_0 (j := 57) (n := 42) rfl)
theorem dX10_either_58 : decode cX10_either 58 = .ok (.getfield 265, 3) := dq_180 (hz_wg wX10_either_0 (j := 58) (n := 180) rfl) (hz_wg wX10_either_0 (j := 59) (n := 1) rfl) (hz_wg wX10_either_0 (j := 60) (n := 9) rfl) rfl
theorem dX10_either_61 : decode cX10_either 61 = .ok (.iload_n 3, 1) := dq_29 (hz_wg wX10_either_0 (j := 61) (n := 29) rfl)
theorem dX10_either_62 : decode cX10_either 62 = .ok (.iastore, 1) := dq_79 (hz_wg wX10_either_0 (j := 62) (n := 79) rfl)
theorem dX10_either_63 : decode cX10_either 63 = .ok (.aload_n 0, 1) := dq_42 (hz_wg wX10_either_0 (j := 63) (n := 42) rfl)
theorem dX10_either_64 : decode cX10_either 64 = .ok (.dup, 1) := dq_89 (hz_wg wX10_either_1 (j := 0) (n := 89) rfl)
theorem dX10_either_65 : decode cX10_either 65 = .ok (.getfield 265, 3) := dq_180 (hz_wg wX10_either_1 (j := 1) (n := 180) rfl) (hz_wg wX10_either_1 (j := 2) (n := 1) rfl) (hz_wg wX10_either_1 (j := 3) (n := 9) rfl) rfl
theorem dX10_either_68 : decode cX10_either 68 = .ok (.iconst 1, 1) := dq_4 (hz_wg wX10_either_1 (j := 4) (n := 4) rfl)
theorem dX10_either_69 : decode cX10_either 69 = .ok (.iadd, 1) := dq_96 (hz_wg wX10_either_1 (j := 5) (n := 96) rfl)
theorem dX10_either_70 : decode cX10_either 70 = .ok (.putfield 265, 3) := dq_181 (hz_wg wX10_either_1 (j := 6) (n := 181) rfl) (hz_wg wX10_either_1 (j := 7) (n := 1) rfl) (hz_wg wX10_either_1 (j := 8) (n := 9) rfl) rfl
theorem dX10_either_73 : decode cX10_either 73 = .ok (.aload_n 0, 1) := dq_42 (hz_wg wX10_either_1 (j := 9) (n := 42) rfl)
theorem dX10_either_74 : decode cX10_either 74 = .ok (.dup, 1) := dq_89 (hz_wg wX10_either_1 (j := 10) (n := 89) rfl)
theorem dX10_either_75 : decode cX10_either 75 = .ok (.getfield 245, 3) := dq_180 (hz_wg wX10_either_1 (j := 11) (n := 180) rfl) (hz_wg wX10_either_1 (j := 12) (n := 0) rfl) (hz_wg wX10_either_1 (j := 13) (n := 245) rfl) rfl
theorem dX10_either_78 : decode cX10_either 78 = .ok (.aload_n 0, 1) := dq_42 (hz_wg wX10_either_1 (j := 14) (n := 42) rfl)
theorem dX10_either_79 : decode cX10_either 79 = .ok (.getfield 252, 3) := dq_180 (hz_wg wX10_either_1 (j := 15) (n := 180) rfl) (hz_wg wX10_either_1 (j := 16) (n := 0) rfl) (hz_wg wX10_either_1 (j := 17) (n := 252) rfl) rfl
theorem dX10_either_82 : decode cX10_either 82 = .ok (.iadd, 1) := dq_96 (hz_wg wX10_either_1 (j := 18) (n := 96) rfl)
theorem dX10_either_83 : decode cX10_either 83 = .ok (.putfield 245, 3) := dq_181 (hz_wg wX10_either_1 (j := 19) (n := 181) rfl) (hz_wg wX10_either_1 (j := 20) (n := 0) rfl) (hz_wg wX10_either_1 (j := 21) (n := 245) rfl) rfl
theorem dX10_either_86 : decode cX10_either 86 = .ok (.iconst 1, 1) := dq_4 (hz_wg wX10_either_1 (j := 22) (n := 4) rfl)
theorem dX10_either_87 : decode cX10_either 87 = .ok (.istore_n 1, 1) := dq_60 (hz_wg wX10_either_1 (j := 23) (n := 60) rfl)
theorem dX10_either_88 : decode cX10_either 88 = .ok (.goto 88, 3) := dq_167 (hz_wg wX10_either_1 (j := 24) (n := 167) rfl) (hz_wg wX10_either_1 (j := 25) (n := 0) rfl) (hz_wg wX10_either_1 (j := 26) (n := 88) rfl) (by decide)
theorem dX10_either_91 : decode cX10_either 91 = .ok (.iload_n 2, 1) := dq_28 (hz_wg wX10_either_1 (j := 27) (n := 28) rfl)
theorem dX10_either_92 : decode cX10_either 92 = .ok (.bipush 41, 2) := dq_16 (hz_wg wX10_either_1 (j := 28) (n := 16) rfl) (hz_wg wX10_either_1 (j := 29) (n := 41) rfl) (by decide)
theorem dX10_either_94 : decode cX10_either 94 = .ok (.if_icmp .ne 52, 3) := dq_160 (hz_wg wX10_either_1 (j := 30) (n := 160) rfl) (hz_wg wX10_either_1 (j := 31) (n := 0) rfl) (hz_wg wX10_either_1 (j := 32) (n := 52) rfl) (by decide)
theorem dX10_either_97 : decode cX10_either 97 = .ok (.aload_n 0, 1) := dq_42 (hz_wg wX10_either_1 (j := 33) (n := 42) rfl)
theorem dX10_either_98 : decode cX10_either 98 = .ok (.iconst 0, 1) := dq_3 (hz_wg wX10_either_1 (j := 34) (n := 3) rfl)
theorem dX10_either_99 : decode cX10_either 99 = .ok (.invokevirtual 303, 3) := dq_182 (hz_wg wX10_either_1 (j := 35) (n := 182) rfl) (hz_wg wX10_either_1 (j := 36) (n := 1) rfl) (hz_wg wX10_either_1 (j := 37) (n := 47) rfl) rfl
theorem dX10_either_102 : decode cX10_either 102 = .ok (.aload_n 0, 1) := dq_42 (hz_wg wX10_either_1 (j := 38) (n := 42) rfl)
theorem dX10_either_103 : decode cX10_either 103 = .ok (.getfield 265, 3) := dq_180 (hz_wg wX10_either_1 (j := 39) (n := 180) rfl) (hz_wg wX10_either_1 (j := 40) (n := 1) rfl) (hz_wg wX10_either_1 (j := 41) (n := 9) rfl) rfl
theorem dX10_either_106 : decode cX10_either 106 = .ok (.ifCond .ne 13, 3) := dq_154 (hz_wg wX10_either_1 (j := 42) (n := 154) rfl) (hz_wg wX10_either_1 (j := 43) (n := 0) rfl) (hz_wg wX10_either_1 (j := 44) (n := 13) rfl) (by decide)
theorem dX10_either_109 : decode cX10_either 109 = .ok (.aload_n 0, 1) := dq_42 (hz_wg wX10_either_1 (j := 45) (n := 42) rfl)
theorem dX10_either_110 : decode cX10_either 110 = .ok (.iconst 0, 1) := dq_3 (hz_wg wX10_either_1 (j := 46) (n := 3) rfl)
theorem dX10_either_111 : decode cX10_either 111 = .ok (.aload_n 0, 1) := dq_42 (hz_wg wX10_either_1 (j := 47) (n := 42) rfl)
theorem dX10_either_112 : decode cX10_either 112 = .ok (.getfield 245, 3) := dq_180 (hz_wg wX10_either_1 (j := 48) (n := 180) rfl) (hz_wg wX10_either_1 (j := 49) (n := 0) rfl) (hz_wg wX10_either_1 (j := 50) (n := 245) rfl) rfl
theorem dX10_either_115 : decode cX10_either 115 = .ok (.invokevirtual 255, 3) := dq_182 (hz_wg wX10_either_1 (j := 51) (n := 182) rfl) (hz_wg wX10_either_1 (j := 52) (n := 0) rfl) (hz_wg wX10_either_1 (j := 53) (n := 255) rfl) rfl
theorem dX10_either_118 : decode cX10_either 118 = .ok (.ireturn, 1) := dq_172 (hz_wg wX10_either_1 (j := 54) (n := 172) rfl)
theorem dX10_either_119 : decode cX10_either 119 = .ok (.aload_n 0, 1) := dq_42 (hz_wg wX10_either_1 (j := 55) (n := 42) rfl)
theorem dX10_either_120 : decode cX10_either 120 = .ok (.dup, 1) := dq_89 (hz_wg wX10_either_1 (j := 56) (n := 89) rfl)
theorem dX10_either_121 : decode cX10_either 121 = .ok (.getfield 265, 3) := dq_180 (hz_wg wX10_either_1 (j := 57) (n := 180) rfl) (hz_wg wX10_either_1 (j := 58) (n := 1) rfl) (hz_wg wX10_either_1 (j := 59) (n := 9) rfl) rfl
theorem dX10_either_124 : decode cX10_either 124 = .ok (.iconst 1, 1) := dq_4 (hz_wg wX10_either_1 (j := 60) (n := 4) rfl)
theorem dX10_either_125 : decode cX10_either 125 = .ok (.isub, 1) := dq_100 (hz_wg wX10_either_1 (j := 61) (n := 100) rfl)
theorem dX10_either_126 : decode cX10_either 126 = .ok (.putfield 265, 3) := dq_181 (hz_wg wX10_either_1 (j := 62) (n := 181) rfl) (hz_wg wX10_either_1 (j := 63) (n := 1) rfl) (hz_wg wX10_either_2 (j := 0) (n := 9) rfl) rfl
theorem dX10_either_129 : decode cX10_either 129 = .ok (.aload_n 0, 1) := dq_42 (hz_wg wX10_either_2 (j := 1) (n := 42) rfl)
theorem dX10_either_130 : decode cX10_either 130 = .ok (.dup, 1) := dq_89 (hz_wg wX10_either_2 (j := 2) (n := 89) rfl)
theorem dX10_either_131 : decode cX10_either 131 = .ok (.getfield 245, 3) := dq_180 (hz_wg wX10_either_2 (j := 3) (n := 180) rfl) (hz_wg wX10_either_2 (j := 4) (n := 0) rfl) (hz_wg wX10_either_2 (j := 5) (n := 245) rfl) rfl
theorem dX10_either_134 : decode cX10_either 134 = .ok (.iconst 1, 1) := dq_4 (hz_wg wX10_either_2 (j := 6) (n := 4) rfl)
theorem dX10_either_135 : decode cX10_either 135 = .ok (.iadd, 1) := dq_96 (hz_wg wX10_either_2 (j := 7) (n := 96) rfl)
theorem dX10_either_136 : decode cX10_either 136 = .ok (.putfield 245, 3) := dq_181 (hz_wg wX10_either_2 (j := 8) (n := 181) rfl) (hz_wg wX10_either_2 (j := 9) (n := 0) rfl) (hz_wg wX10_either_2 (j := 10) (n := 245) rfl) rfl
theorem dX10_either_139 : decode cX10_either 139 = .ok (.aload_n 0, 1) := dq_42 (hz_wg wX10_either_2 (j := 11) (n := 42) rfl)
theorem dX10_either_140 : decode cX10_either 140 = .ok (.invokevirtual 300, 3) := dq_182 (hz_wg wX10_either_2 (j := 12) (n := 182) rfl) (hz_wg wX10_either_2 (j := 13) (n := 1) rfl) (hz_wg wX10_either_2 (j := 14) (n := 44) rfl) rfl
theorem dX10_either_143 : decode cX10_either 143 = .ok (.goto 33, 3) := dq_167 (hz_wg wX10_either_2 (j := 15) (n := 167) rfl) (hz_wg wX10_either_2 (j := 16) (n := 0) rfl) (hz_wg wX10_either_2 (j := 17) (n := 33) rfl) (by decide)
theorem dX10_either_146 : decode cX10_either 146 = .ok (.aload_n 0, 1) := dq_42 (hz_wg wX10_either_2 (j := 18) (n := 42) rfl)
theorem dX10_either_147 : decode cX10_either 147 = .ok (.iconst 0, 1) := dq_3 (hz_wg wX10_either_2 (j := 19) (n := 3) rfl)
theorem dX10_either_148 : decode cX10_either 148 = .ok (.invokevirtual 303, 3) := dq_182 (hz_wg wX10_either_2 (j := 20) (n := 182) rfl) (hz_wg wX10_either_2 (j := 21) (n := 1) rfl) (hz_wg wX10_either_2 (j := 22) (n := 47) rfl) rfl
theorem dX10_either_151 : decode cX10_either 151 = .ok (.aload_n 0, 1) := dq_42 (hz_wg wX10_either_2 (j := 23) (n := 42) rfl)
theorem dX10_either_152 : decode cX10_either 152 = .ok (.getfield 265, 3) := dq_180 (hz_wg wX10_either_2 (j := 24) (n := 180) rfl) (hz_wg wX10_either_2 (j := 25) (n := 1) rfl) (hz_wg wX10_either_2 (j := 26) (n := 9) rfl) rfl
theorem dX10_either_155 : decode cX10_either 155 = .ok (.ifCond .eq 15, 3) := dq_153 (hz_wg wX10_either_2 (j := 27) (n := 153) rfl) (hz_wg wX10_either_2 (j := 28) (n := 0) rfl) (hz_wg wX10_either_2 (j := 29) (n := 15) rfl) (by decide)
theorem dX10_either_158 : decode cX10_either 158 = .ok (.aload_n 0, 1) := dq_42 (hz_wg wX10_either_2 (j := 30) (n := 42) rfl)
theorem dX10_either_159 : decode cX10_either 159 = .ok (.iconst 0, 1) := dq_3 (hz_wg wX10_either_2 (j := 31) (n := 3) rfl)
theorem dX10_either_160 : decode cX10_either 160 = .ok (.aload_n 0, 1) := dq_42 (hz_wg wX10_either_2 (j := 32) (n := 42) rfl)
theorem dX10_either_161 : decode cX10_either 161 = .ok (.getfield 245, 3) := dq_180 (hz_wg wX10_either_2 (j := 33) (n := 180) rfl) (hz_wg wX10_either_2 (j := 34) (n := 0) rfl) (hz_wg wX10_either_2 (j := 35) (n := 245) rfl) rfl
theorem dX10_either_164 : decode cX10_either 164 = .ok (.invokevirtual 255, 3) := dq_182 (hz_wg wX10_either_2 (j := 36) (n := 182) rfl) (hz_wg wX10_either_2 (j := 37) (n := 0) rfl) (hz_wg wX10_either_2 (j := 38) (n := 255) rfl) rfl
theorem dX10_either_167 : decode cX10_either 167 = .ok (.ifCond .eq 7, 3) := dq_153 (hz_wg wX10_either_2 (j := 39) (n := 153) rfl) (hz_wg wX10_either_2 (j := 40) (n := 0) rfl) (hz_wg wX10_either_2 (j := 41) (n := 7) rfl) (by decide)
theorem dX10_either_170 : decode cX10_either 170 = .ok (.iconst 1, 1) := dq_4 (hz_wg wX10_either_2 (j := 42) (n := 4) rfl)
theorem dX10_either_171 : decode cX10_either 171 = .ok (.goto 4, 3) := dq_167 (hz_wg wX10_either_2 (j := 43) (n := 167) rfl) (hz_wg wX10_either_2 (j := 44) (n := 0) rfl) (hz_wg wX10_either_2 (j := 45) (n := 4) rfl) (by decide)
theorem dX10_either_174 : decode cX10_either 174 = .ok (.iconst 0, 1) := dq_3 (hz_wg wX10_either_2 (j := 46) (n := 3) rfl)
theorem dX10_either_175 : decode cX10_either 175 = .ok (.ireturn, 1) := dq_172 (hz_wg wX10_either_2 (j := 47) (n := 172) rfl)
theorem dX10_either_176 : decode cX10_either 176 = .ok (.goto (-170), 3) := dq_167 (hz_wg wX10_either_2 (j := 48) (n := 167) rfl) (hz_wg wX10_either_2 (j := 49) (n := 255) rfl) (hz_wg wX10_either_2 (j := 50) (n := 86) rfl) (by decide)