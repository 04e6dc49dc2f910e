def wLX10_compare_0 : List Nat := [27, 184, 1, 14, 154, 0, 13, 42, 3, 42, 180, 0, 245, 182, 0, 255, 172, 42, 180, 1, 18, 16, 20, 160, 0, 13, 42, 7, 42, 180, 0, 245, 182, 0, 255, 172, 42, 89, 180, 1, 18, 4, 96, 181, 1, 18, 42, 89, 180, 0, 245, 42, 180, 0, 252, 96, 181, 0, 245, 42, 182, 0, 248, 61]
def wLX10_compare_1 : List Nat := [28, 16, 60, 159, 0, 25, 28, 16, 61, 159, 0, 19, 28, 16, 62, 159, 0, 13, 42, 3, 42, 180, 0, 245, 182, 0, 255, 172, 42, 89, 180, 0, 245, 4, 96, 181, 0, 245, 28, 16, 61, 159, 0, 32, 42, 180, 0, 245, 42, 180, 0, 236, 162, 0, 21, 42, 180, 0, 22, 42, 180, 0, 245, 51]
def wLX10_compare_2 : List Nat := [16, 61, 160, 0, 7, 4, 167, 0, 4, 3, 62, 29, 153, 0, 13, 42, 89, 180, 0, 245, 4, 96, 181, 0, 245, 28, 16, 60, 160, 0, 15, 29, 153, 0, 7, 4, 167, 0, 26, 3, 167, 0, 22, 28, 16, 61, 160, 0, 7, 5, 167, 0, 12, 29, 153, 0, 7, 6, 167, 0, 4, 7, 54, 4]
def wLX10_compare_3 : List Nat := [42, 182, 1, 21, 54, 5, 21, 5, 184, 1, 14, 153, 0, 38, 42, 89, 180, 0, 245, 42, 180, 0, 252, 96, 181, 0, 245, 42, 27, 6, 100, 21, 4, 17, 39, 16, 21, 5, 96, 6, 100, 184, 1, 24, 182, 1, 28, 4, 172, 42, 3, 17, 39, 15, 182, 1, 31, 154, 0, 5, 3, 172, 42, 27]
def wLX10_compare_4 : List Nat := [6, 100, 21, 4, 42, 180, 1, 3, 184, 1, 24, 182, 1, 28, 4, 172]
theorem wX10_compare_0 : (cX10_compare.data.toList.map UInt8.toNat).drop 0 = wLX10_compare_0 ++ (wLX10_compare_1 ++ (wLX10_compare_2 ++ (wLX10_compare_3 ++ (wLX10_compare_4 ++ ([]))))) := by decide +kernel
theorem wX10_compare_1 : (cX10_compare.data.toList.map UInt8.toNat).drop 64 = wLX10_compare_1 ++ (wLX10_compare_2 ++ (wLX10_compare_3 ++ (wLX10_compare_4 ++ ([])))) := hz_wn wX10_compare_0 rfl
theorem wX10_compare_2 : (cX10_compare.data.toList.map UInt8.toNat).drop 128 = wLX10_compare_2 ++ (wLX10_compare_3 ++ (wLX10_compare_4 ++ ([]))) := hz_wn wX10_compare_1 rfl
theorem wX10_compare_3 : (cX10_compare.data.toList.map UInt8.toNat).drop 192 = wLX10_compare_3 ++ (wLX10_compare_4 ++ ([])) := hz_wn wX10_compare_2 rfl
theorem wX10_compare_4 : (cX10_compare.data.toList.map UInt8.toNat).drop 256 = wLX10_compare_4 ++ ([]) := hz_wn wX10_compare_3 rfl
theorem dX10_compare_0 : decode cX10_compare 0 = .ok (.iload_n 1, 1) := dq_27 (hz_wg wX10_compare_0 (j := 0) (n := 27) rfl)
theorem dX10_compare_1 : decode cX10_compare 1 = .ok (.invokestatic 270, 3) := dq_184 (hz_wg wX10_compare_0 (j := 1) (n := 184) rfl) (hz_wg wX10_compare_0 (j := 2) (n := 1) rfl) (hz_wg wX10_compare_0 (j := 3) (n := 14) rfl) rfl
theorem dX10_compare_4 : decode cX10_compare 4 = .ok (.ifCond .ne 13, 3) := dq_154 (hz_wg wX10_compare_0 (j := 4) (n := 154) rfl) (hz_wg wX10_compare_0 (j := 5) (n := 0) rfl) (hz_wg wX10_compare_0 (j := 6) (n := 13) rfl) (by decide)
theorem dX10_compare_7 : decode cX10_compare 7 = .ok (.aload_n 0, 1) := dq_42 (hz_wg wX10_compare_0 (j := 7) (n := 42) rfl)
theorem dX10_compare_8 : decode cX10_compare 8 = .ok (.iconst 0, 1) := dq_3 (hz_wg wX10_compare_0 (j := 8) (n := 3) rfl)
theorem dX10_compare_9 : decode cX10_compare 9 = .ok (.aload_n 0, 1) := dq_42 (hz_wg wX10_compare_0 (j := 9) (n := 42) rfl)
theorem dX10_compare_10 : decode cX10_compare 10 = .ok (.getfield 245, 3) := dq_180 (hz_wg wX10_compare_0 (j := 10) (n := 180) rfl) (hz_wg wX10_compare_0 (j := 11) (n := 0) rfl) (hz_wg wX10_compare_0 (j := 12) (n := 245) rfl) rfl
theorem dX10_compare_13 : decode cX10_compare 13 = .ok (.invokevirtual 255, 3) := dq_182 (hz_wg wX10_compare_0 (j := 13) (n := 182) rfl) (hz_wg wX10_compare_0 (j := 14) (n := 0) rfl) (hz_wg wX10_compare_0 (j := 15) (n := 255) rfl) rfl
theorem dX10_compare_16 : decode cX10_compare 16 = .ok (.ireturn, 1) := dq_172 (hz_wg wX10_compare_0 (j := 16) (n := 172) rfl)
theorem dX10_compare_17 : decode cX10_compare 17 = .ok (.aload_n 0, 1) := dq_42 (hz_wg wX10_compare_0 (j := 17) (n := 42) rfl)
theorem dX10_compare_18 : decode cX10_compare 18 = .ok (.getfield 274, 3) := dq_180 (hz_wg wX10_compare_0 (j := 18) (n := 180) rfl) (hz_wg wX10_compare_0 (j := 19) (n := 1) rfl) (hz_wg wX10_compare_0 (j := 20) (n := 18) rfl) rfl
theorem dX10_compare_21 : decode cX10_compare 21 = .ok (.bipush 20, 2) := dq_16 (hz_wg wX10_compare_0 (j := 21) (n := 16) rfl) (hz_wg wX10_compare_0 (j := 22) (n := 20) rfl) (by decide)
theorem dX10_compare_23 : decode cX10_compare 23 = .ok (.if_icmp .ne 13, 3) := dq_160 (hz_wg wX10_compare_0 (j := 23) (n := 160) rfl) (hz_wg wX10_compare_0 (j := 24) (n := 0) rfl) (hz_wg wX10_compare_0 (j := 25) (n := 13) rfl) (by decide)
theorem dX10_compare_26 : decode cX10_compare 26 = .ok (.aload_n 0, 1) := dq_42 (hz_wg wX10_compare_0 (j := 26) (n := 42) rfl)
theorem dX10_compare_27 : decode cX10_compare 27 = .ok (.iconst 4, 1) := dq_7 (hz_wg wX10_compare_0 (j := 27) (n := 7) rfl)
theorem dX10_compare_28 : decode cX10_compare 28 = .ok (.aload_n 0, 1) := dq_42 (hz_wg wX10_compare_0 (j := 28) (n := 42) rfl)
theorem dX10_compare_29 : decode cX10_compare 29 = .ok (.getfield 245, 3) := dq_180 (hz_wg wX10_compare_0 (j := 29) (n := 180) rfl) (hz_wg wX10_compare_0 (j := 30) (n := 0) rfl) (hz_wg wX10_compare_0 (j := 31) (n := 245) rfl) rfl
theorem dX10_compare_32 : decode cX10_compare 32 = .ok (.invokevirtual 255, 3) := dq_182 (hz_wg wX10_compare_0 (j := 32) (n := 182) rfl) (hz_wg wX10_compare_0 (j := 33) (n := 0) rfl) (hz_wg wX10_compare_0 (j := 34) (n := 255) rfl) rfl
theorem dX10_compare_35 : decode cX10_compare 35 = .ok (.ireturn, 1) := dq_172 (hz_wg wX10_compare_0 (j := 35) (n := 172) rfl)
theorem dX10_compare_36 : decode cX10_compare 36 = .ok (.aload_n 0, 1) := dq_42 (hz_wg wX10_compare_0 (j := 36) (n := 42) rfl)
theorem dX10_compare_37 : decode cX10_compare 37 = .ok (.dup, 1) := dq_89 (hz_wg wX10_compare_0 (j := 37) (n := 89) rfl)
theorem dX10_compare_38 : decode cX10_compare 38 = .ok (.getfield 274, 3) := dq_180 (hz_wg wX10_compare_0 (j := 38) (n := 180) rfl) (hz_wg wX10_compare_0 (j := 39) (n := 1) rfl) (hz_wg wX10_compare_0 (j := 40) (n := 18) rfl) rfl
theorem dX10_compare_41 : decode cX10_compare 41 = .ok (.iconst 1, 1) := dq_4 (hz_wg wX10_compare_0 (j := 41) (n := 4) rfl)
theorem dX10_compare_42 : decode cX10_compare 42 = .ok (.iadd, 1) := dq_96 (hz_wg wX10_compare_0 (j := 42) (n := 96) rfl)
theorem dX10_compare_43 : decode cX10_compare 43 = .ok (.putfield 274, 3) := dq_181 (hz_wg wX10_compare_0 (j := 43) (n := 181) rfl) (hz_wg wX10_compare_0 (j := 44) (n := 1) rfl) (hz_wg wX10_compare_0 (j := 45) (n := 18) rfl) rfl
theorem dX10_compare_46 : decode cX10_compare 46 = .ok (.aload_n 0, 1) := dq_42 (hz_wg wX10_compare_0 (j := 46) (n := 42) rfl)
theorem dX10_compare_47 : decode cX10_compare 47 = .ok (.dup, 1) := dq_89 (hz_wg wX10_compare_0 (j := 47) (n := 89) rfl)
theorem dX10_compare_48 : decode cX10_compare 48 = .ok (.getfield 245, 3) := dq_180 (hz_wg wX10_compare_0 (j := 48) (n := 180) rfl) (hz_wg wX10_compare_0 (j := 49) (n := 0) rfl) (hz_wg wX10_compare_0 (j := 50) (n := 245) rfl) rfl
theorem dX10_compare_51 : decode cX10_compare 51 = .ok (.aload_n 0, 1) := dq_42 (hz_wg wX10_compare_0 (j := 51) (n := 42) rfl)
theorem dX10_compare_52 : decode cX10_compare 52 = .ok (.getfield 252, 3) := dq_180 (hz_wg wX10_compare_0 (j := 52) (n := 180) rfl) (hz_wg wX10_compare_0 (j := 53) (n := 0) rfl) (hz_wg wX10_compare_0 (j := 54) (n := 252) rfl) rfl
theorem dX10_compare_55 : decode cX10_compare 55 = .ok (.iadd, 1) := dq_96 (hz_wg wX10_compare_0 (j := 55) (n := 96) rfl)
theorem dX10_compare_56 : decode cX10_compare 56 = .ok (.putfield 245, 3) := dq_181 (hz_wg wX10_compare_0 (j := 56) (n := 181) rfl) (hz_wg wX10_compare_0 (j := 57) (n := 0) rfl) (hz_wg wX10_compare_0 (j := 58) (n := 245) rfl) rfl
theorem dX10_compare_59 : decode cX10_compare 59 = .ok (.aload_n 0, 1) := dq_42 (hz_wg wX10_compare_0 (j := 59) (n := 42) rfl)
theorem dX10_compare_60 : decode cX10_compare 60 = .ok (.invokevirtual 248, 3) := dq_182 (hz_wg wX10_compare_0 (j := 60) (n := 182) rfl) (hz_wg wX10_compare_0 (j := 61) (n := 0) rfl) (hz_wg wX10_compare_0 (j := 62) (n := 248) rfl) rfl
theorem dX10_compare_63 : decode cX10_compare 63 = .ok (.istore_n 2, 1) := dq_61 (hz_wg wX10_compare_0 (j := 63) (n := 61) rfl)
theorem dX10_compare_64 : decode cX10_compare 64 = .ok (.iload_n 2, 1) := dq_28 (hz_wg wX10_compare_1 (j := 0) (n := 28) rfl)
theorem dX10_compare_65 : decode cX10_compare 65 = .ok (.bipush 60, 2) := dq_16 (hz_wg wX10_compare_1 (j := 1) (n := 16) rfl) (hz_wg wX10_compare_1 (j := 2) (n := 60) rfl) (by decide)
theorem dX10_compare_67 : decode cX10_compare 67 = .ok (.if_icmp .eq 25, 3) := dq_159 (hz_wg wX10_compare_1 (j := 3) (n := 159) rfl) (hz_wg wX10_compare_1 (j := 4) (n := 0) rfl) (hz_wg wX10_compare_1 (j := 5) (n := 25) rfl) (by decide)
theorem dX10_compare_70 : decode cX10_compare 70 = .ok (.iload_n 2, 1) := dq_28 (hz_wg wX10_compare_1 (j := 6) (n := 28) rfl)
theorem dX10_compare_71 : decode cX10_compare 71 = .ok (.bipush 61, 2) := dq_16 (hz_wg wX10_compare_1 (j := 7) (n := 16) rfl) (hz_wg wX10_compare_1 (j := 8) (n := 61) rfl) (by decide)
theorem dX10_compare_73 : decode cX10_compare 73 = .ok (.if_icmp .eq 19, 3) := dq_159 (hz_wg wX10_compare_1 (j := 9) (n := 159) rfl) (hz_wg wX10_compare_1 (j := 10) (n := 0) rfl) (hz_wg wX10_compare_1 (j := 11) (n := 19) rfl) (by decide)
theorem dX10_compare_76 : decode cX10_compare 76 = .ok (.iload_n 2, 1) := dq_28 (hz_wg wX10_compare_1 (j := 12) (n := 28) rfl)
theorem dX10_compare_77 : decode cX10_compare 77 = .ok (.bipush 62, 2) := dq_16 (hz_wg wX10_compare_1 (j := 13) (n := 16) rfl) (hz_wg wX10_compare_1 (j := 14) (n := 62) rfl) (by decide)
theorem dX10_compare_79 : decode cX10_compare 79 = .ok (.if_icmp .eq 13, 3) := dq_159 (hz_wg wX10_compare_1 (j := 15) (n := 159) rfl) (hz_wg wX10_compare_1 (j := 16) (n := 0) rfl) (hz_wg wX10_compare_1 (j := 17) (n := 13) rfl) (by decide)
theorem dX10_compare_82 : decode cX10_compare 82 = .ok (.aload_n 0, 1) := dq_42 (hz_wg wX10_compare_1 (j := 18) (n := 42) rfl)
theorem dX10_compare_83 : decode cX10_compare 83 = .ok (.iconst 0, 1) := dq_3 (hz_wg wX10_compare_1 (j := 19) (n := 3) rfl)
theorem dX10_compare_84 : decode cX10_compare 84 = .ok (.aload_n 0, 1) := dq_42 (hz_wg wX10_compare_1 (j := 20) (n := 42) rfl)
theorem dX10_compare_85 : decode cX10_compare 85 = .ok (.getfield 245, 3) := dq_180 (hz_wg wX10_compare_1 (j := 21) (n := 180) rfl) (hz_wg wX10_compare_1 (j := 22) (n := 0) rfl) (hz_wg wX10_compare_1 (j := 23) (n := 245) rfl) rfl
theorem dX10_compare_88 : decode cX10_compare 88 = .ok (.invokevirtual 255, 3) := dq_182 (hz_wg wX10_compare_1 (j := 24) (n := 182) rfl) (hz_wg wX10_compare_1 (j := 25) (n := 0) rfl) (hz_wg wX10_compare_1 (j := 26) (n := 255) rfl) rfl
theorem dX10_compare_91 : decode cX10_compare 91 = .ok (.ireturn, 1) := dq_172 (hz_wg wX10_compare_1 (j := 27) (n := 172) rfl)
theorem dX10_compare_92 : decode cX10_compare 92 = .ok (.aload_n 0, 1) := dq_42 (hz_wg wX10_compare_1 (j := 28) (n := 42) rfl)
theorem dX10_compare_93 : decode cX10_compare 93 = .ok (.dup, 1) := dq_89 (hz_wg wX10_compare_1 (j := 29) (n := 89) rfl)
theorem dX10_compare_94 : decode cX10_compare 94 = .ok (.getfield 245, 3) := dq_180 (hz_wg wX10_compare_1 (j := 30) (n := 180) rfl) (hz_wg wX10_compare_1 (j := 31) (n := 0) rfl) (hz_wg wX10_compare_1 (j := 32) (n := 245) rfl) rfl
theorem dX10_compare_97 : decode cX10_compare 97 = .ok (.iconst 1, 1) := dq_4 (hz_wg wX10_compare_1 (j := 33) (n := 4) rfl)
theorem dX10_compare_98 : decode cX10_compare 98 = .ok (.iadd, 1) := dq_96 (hz_wg wX10_compare_1 (j := 34) (n := 96) rfl)
theorem dX10_compare_99 : decode cX10_compare 99 = .ok (.putfield 245, 3) := dq_181 (hz_wg wX10_compare_1 (j := 35) (n := 181) rfl) (hz_wg wX10_compare_1 (j := 36) (n := 0) rfl) (hz_wg wX10_compare_1 (j := 37) (n := 245) rfl) rfl
theorem dX10_compare_102 : decode cX10_compare 102 = .ok (.iload_n 2, 1) := dq_28 (hz_wg wX10_compare_1 (j := 38) (n := 28) rfl)
theorem dX10_compare_103 : decode cX10_compare 103 = .ok (.bipush 61, 2) := dq_16 (hz_wg wX10_compare_1 (j := 39) (n := 16) rfl) (hz_wg wX10_compare_1 (j := 40) (n := 61) rfl) (by decide)
theorem dX10_compare_105 : decode cX10_compare 105 = .ok (.if_icmp .eq 32, 3) := dq_159 (hz_wg wX10_compare_1 (j := 41) (n := 159) rfl) (hz_wg wX10_compare_1 (j := 42) (n := 0) rfl) (hz_wg wX10_compare_1 (j := 43) (n := 32) rfl) (by decide)
theorem dX10_compare_108 : decode cX10_compare 108 = .ok (.aload_n 0, 1) := dq_42 (hz_wg wX10_compare_1 (j := 44) (n := 42) rfl)
theorem dX10_compare_109 : decode cX10_compare 109 = .ok (.getfield 245, 3) := dq_180 (hz_wg wX10_compare_1 (j := 45) (n := 180) rfl) (hz_wg wX10_compare_1 (j := 46) (n := 0) rfl) (hz_wg wX10_compare_1 (j := 47) (n := 245) rfl) rfl
theorem dX10_compare_112 : decode cX10_compare 112 = .ok (.aload_n 0, 1) := dq_42 (hz_wg wX10_compare_1 (j := 48) (n := 42) rfl)
theorem dX10_compare_113 : decode cX10_compare 113 = .ok (.getfield 236, 3) := dq_180 (hz_wg wX10_compare_1 (j := 49) (n := 180) rfl) (hz_wg wX10_compare_1 (j := 50) (n := 0) rfl) (hz_wg wX10_compare_1 (j := 51) (n := 236) rfl) rfl
theorem dX10_compare_116 : decode cX10_compare 116 = .ok (.if_icmp .ge 21, 3) := dq_162 (hz_wg wX10_compare_1 (j := 52) (n := 162) rfl) (hz_wg wX10_compare_1 (j := 53) (n := 0) rfl) (hz_wg wX10_compare_1 (j := 54) (n := 21) rfl) (by decide)
theorem dX10_compare_119 : decode cX10_compare 119 = .ok (.aload_n 0, 1) := dq_42 (hz_wg wX10_compare_1 (j := 55) (n := 42) rfl)
theorem dX10_compare_120 : decode cX10_compare 120 = .ok (.getfield 22, 3) := dq_180 (hz_wg wX10_compare_1 (j := 56) (n := 180) rfl) (hz_wg wX10_compare_1 (j := 57) (n := 0) rfl) (hz_wg wX10_compare_1 (j := 58) (n := 22) rfl) rfl
theorem dX10_compare_123 : decode cX10_compare 123 = .ok (.aload_n 0, 1) := dq_42 (hz_wg wX10_compare_1 (j := 59) (n := 42) rfl)
theorem dX10_compare_124 : decode cX10_compare 124 = .ok (.getfield 245, 3) := dq_180 (hz_wg wX10_compare_1 (j := 60) (n := 180) rfl) (hz_wg wX10_compare_1 (j := 61) (n := 0) rfl) (hz_wg wX10_compare_1 (j := 62) (n := 245) rfl) rfl
theorem dX10_compare_127 : decode cX10_compare 127 = .ok (.baload, 1) := dq_51 (hz_wg wX10_compare_1 (j := 63) (n := 51) rfl)
theorem dX10_compare_128 : decode cX10_compare 128 = .ok (.bipush 61, 2) := dq_16 (hz_wg wX10_compare_2 (j := 0) (n := 16) rfl) (hz_wg wX10_compare_2 (j := 1) (n := 61) rfl) (by decide)
theorem dX10_compare_130 : decode cX10_compare 130 = .ok (.if_icmp .ne 7, 3) := dq_160 (hz_wg wX10_compare_2 (j := 2) (n := 160) rfl) (hz_wg wX10_compare_2 (j := 3) (n := 0) rfl) (hz_wg wX10_compare_2 (j := 4) (n := 7) rfl) (by decide)
theorem dX10_compare_133 : decode cX10_compare 133 = .ok (.iconst 1, 1) := dq_4 (hz_wg wX10_compare_2 (j := 5) (n := 4) rfl)
theorem dX10_compare_134 : decode cX10_compare 134 = .ok (.goto 4, 3) := dq_167 (hz_wg wX10_compare_2 (j := 6) (n := 167) rfl) (hz_wg wX10_compare_2 (j := 7) (n := 0) rfl) (hz_wg wX10_compare_2 (j := 8) (n := 4) rfl) (by decide)
theorem dX10_compare_137 : decode cX10_compare 137 = .ok (.iconst 0, 1) := dq_3 (hz_wg wX10_compare_2 (j := 9) (n := 3) rfl)
theorem dX10_compare_138 : decode cX10_compare 138 = .ok (.istore_n 3, 1) := dq_62 (hz_wg wX10_compare_2 (j := 10) (n := 62) rfl)
theorem dX10_compare_139 : decode cX10_compare 139 = .ok (.iload_n 3, 1) := dq_29 (hz_wg wX10_compare_2 (j := 11) (n := 29) rfl)
theorem dX10_compare_140 : decode cX10_compare 140 = .ok (.ifCond .eq 13, 3) := dq_153 (hz_wg wX10_compare_2 (j := 12) (n := 153) rfl) (hz_wg wX10_compare_2 (j := 13) (n := 0) rfl) (hz_wg wX10_compare_2 (j := 14) (n := 13) rfl) (by decide)
theorem dX10_compare_143 : decode cX10_compare 143 = .ok (.aload_n 0, 1) := dq_42 (hz_wg wX10_compare_2 (j := 15) (n := 42) rfl)
theorem dX10_compare_144 : decode cX10_compare 144 = .ok (.dup, 1) := dq_89 (hz_wg wX10_compare_2 (j := 16) (n := 89) rfl)
theorem dX10_compare_145 : decode cX10_compare 145 = .ok (.getfield 245, 3) := dq_180 (hz_wg wX10_compare_2 (j := 17) (n := 180) rfl) (hz_wg wX10_compare_2 (j := 18) (n := 0) rfl) (hz_wg wX10_compare_2 (j := 19) (n := 245) rfl) rfl
theorem dX10_compare_148 : decode cX10_compare 148 = .ok (.iconst 1, 1) := dq_4 (hz_wg wX10_compare_2 (j := 20) (n := 4) rfl)
theorem dX10_compare_149 : decode cX10_compare 149 = .ok (.iadd, 1) := dq_96 (hz_wg wX10_compare_2 (j := 21) (n := 96) rfl)
theorem dX10_compare_150 : decode cX10_compare 150 = .ok (.putfield 245, 3) := dq_181 (hz_wg wX10_compare_2 (j := 22) (n := 181) rfl) (hz_wg wX10_compare_2 (j := 23) (n := 0) rfl) (hz_wg wX10_compare_2 (j := 24) (n := 245) rfl) rfl
theorem dX10_compare_153 : decode cX10_compare 153 = .ok (.iload_n 2, 1) := dq_28 (hz_wg wX10_compare_2 (j := 25) (n := 28) rfl)
theorem dX10_compare_154 : decode cX10_compare 154 = .ok (.bipush 60, 2) := dq_16 (hz_wg wX10_compare_2 (j := 26) (n := 16) rfl) (hz_wg wX10_compare_2 (j := 27) (n := 60) rfl) (by decide)
theorem dX10_compare_156 : decode cX10_compare 156 = .ok (.if_icmp .ne 15, 3) := dq_160 (hz_wg wX10_compare_2 (j := 28) (n := 160) rfl) (hz_wg wX10_compare_2 (j := 29) (n := 0) rfl) (hz_wg wX10_compare_2 (j := 30) (n := 15) rfl) (by decide)
theorem dX10_compare_159 : decode cX10_compare 159 = .ok (.iload_n 3, 1) := dq_29 (hz_wg wX10_compare_2 (j := 31) (n := 29) rfl)
theorem dX10_compare_160 : decode cX10_compare 160 = .ok (.ifCond .eq 7, 3) := dq_153 (hz_wg wX10_compare_2 (j := 32) (n := 153) rfl) (hz_wg wX10_compare_2 (j := 33) (n := 0) rfl) (hz_wg wX10_compare_2 (j := 34) (n := 7) rfl) (by decide)
theorem dX10_compare_163 : decode cX10_compare 163 = .ok (.iconst 1, 1) := dq_4 (hz_wg wX10_compare_2 (j := 35) (n := 4) rfl)
theorem dX10_compare_164 : decode cX10_compare 164 = .ok (.goto 26, 3) := dq_167 (hz_wg wX10_compare_2 (j := 36) (n := 167) rfl) (hz_wg wX10_compare_2 (j := 37) (n := 0) rfl) (hz_wg wX10_compare_2 (j := 38) (n := 26) rfl) (by decide)
theorem dX10_compare_167 : decode cX10_compare 167 = .ok (.iconst 0, 1) := dq_3 (hz_wg wX10_compare_2 (j := 39) (n := 3) rfl)
theorem dX10_compare_168 : decode cX10_compare 168 = .ok (.goto 22, 3) := dq_167 (hz_wg wX10_compare_2 (j := 40) (n := 167) rfl) (hz_wg wX10_compare_2 (j := 41) (n := 0) rfl) (hz_wg wX10_compare_2 (j := 42) (n := 22) rfl) (by decide)
theorem dX10_compare_171 : decode cX10_compare 171 = .ok (.iload_n 2, 1) := dq_28 (hz_wg wX10_compare_2 (j := 43) (n := 28) rfl)
theorem dX10_compare_172 : decode cX10_compare 172 = .ok (.bipush 61, 2) := dq_16 (hz_wg wX10_compare_2 (j := 44) (n := 16) rfl) (hz_wg wX10_compare_2 (j := 45) (n := 61) rfl) (by decide)
theorem dX10_compare_174 : decode cX10_compare 174 = .ok (.if_icmp .ne 7, 3) := dq_160 (hz_wg wX10_compare_2 (j := 46) (n := 160) rfl) (hz_wg wX10_compare_2 (j := 47) (n := 0) rfl) (hz_wg wX10_compare_2 (j := 48) (n := 7) rfl) (by decide)
theorem dX10_compare_177 : decode cX10_compare 177 = .ok (.iconst 2, 1) := dq_5 (hz_wg wX10_compare_2 (j := 49) (n := 5) rfl)
theorem dX10_compare_178 : decode cX10_compare 178 = .ok (.goto 12, 3) := dq_167 (hz_wg wX10_compare_2 (j := 50) (n := 167) rfl) (hz_wg wX10_compare_2 (j := 51) (n := 0) rfl) (hz_wg wX10_compare_2 (j := 52) (n := 12) rfl) (by decide)
theorem dX10_compare_181 : decode cX10_compare 181 = .ok (.iload_n 3, 1) := dq_29 (hz_wg wX10_compare_2 (j := 53) (n := 29) rfl)
theorem dX10_compare_182 : decode cX10_compare 182 = .ok (.ifCond .eq 7, 3) := dq_153 (hz_wg wX10_compare_2 (j := 54) (n := 153) rfl) (hz_wg wX10_compare_2 (j := 55) (n := 0) rfl) (hz_wg wX10_compare_2 (j := 56) (n := 7) rfl) (by decide)
theorem dX10_compare_185 : decode cX10_compare 185 = .ok (.iconst 3, 1) := dq_6 (hz_wg wX10_compare_2 (j := 57) (n := 6) rfl)
theorem dX10_compare_186 : decode cX10_compare 186 = .ok (.goto 4, 3) := dq_167 (hz_wg wX10_compare_2 (j := 58) (n := 167) rfl) (hz_wg wX10_compare_2 (j := 59) (n := 0) rfl) (hz_wg wX10_compare_2 (j := 60) (n := 4) rfl) (by decide)
theorem dX10_compare_189 : decode cX10_compare 189 = .ok (.iconst 4, 1) := dq_7 (hz_wg wX10_compare_2 (j := 61) (n := 7) rfl)
theorem dX10_compare_190 : decode cX10_compare 190 = .ok (.istore 4, 2) := dq_54 (hz_wg wX10_compare_2 (j := 62) (n := 54) rfl) (hz_wg wX10_compare_2 (j := 63) (n := 4) rfl)
theorem dX10_compare_192 : decode cX10_compare 192 = .ok (.aload_n 0, 1) := dq_42 (hz_wg wX10_compare_3 (j := 0) (n := 42) rfl)
theorem dX10_compare_193 : decode cX10_compare 193 = .ok (.invokevirtual 277, 3) := dq_182 (hz_wg wX10_compare_3 (j := 1) (n := 182) rfl) (hz_wg wX10_compare_3 (j := 2) (n := 1) rfl) (hz_wg wX10_compare_3 (j := 3) (n := 21) rfl) rfl
theorem dX10_compare_196 : decode cX10_compare 196 = .ok (.istore 5, 2) := dq_54 (hz_wg wX10_compare_3 (j := 4) (n := 54) rfl) (hz_wg wX10_compare_3 (j := 5) (n := 5) rfl)
theorem dX10_compare_198 : decode cX10_compare 198 = .ok (.iload 5, 2) := dq_21 (hz_wg wX10_compare_3 (j := 6) (n := 21) rfl) (hz_wg wX10_compare_3 (j := 7) (n := 5) rfl)
theorem dX10_compare_200 : decode cX10_compare 200 = .ok (.invokestatic 270, 3) := dq_184 (hz_wg wX10_compare_3 (j := 8) (n := 184) rfl) (hz_wg wX10_compare_3 (j := 9) (n := 1) rfl) (hz_wg wX10_compare_3 (j := 10) (n := 14) rfl) rfl
theorem dX10_compare_203 : decode cX10_compare 203 = .ok (.ifCond .eq 38, 3) := dq_153 (hz_wg wX10_compare_3 (j := 11) (n := 153) rfl) (hz_wg wX10_compare_3 (j := 12) (n := 0) rfl) (hz_wg wX10_compare_3 (j := 13) (n := 38) rfl) (by decide)
theorem dX10_compare_206 : decode cX10_compare 206 = .ok (.aload_n 0, 1) := dq_42 (hz_wg wX10_compare_3 (j := 14) (n := 42) rfl)
theorem dX10_compare_207 : decode cX10_compare 207 = .ok (.dup, 1) := dq_89 (hz_wg wX10_compare_3 (j := 15) (n := 89) rfl)
theorem dX10_compare_208 : decode cX10_compare 208 = .ok (.getfield 245, 3) := dq_180 (hz_wg wX10_compare_3 (j := 16) (n := 180) rfl) (hz_wg wX10_compare_3 (j := 17) (n := 0) rfl) (hz_wg wX10_compare_3 (j := 18) (n := 245) rfl) rfl
theorem dX10_compare_211 : decode cX10_compare 211 = .ok (.aload_n 0, 1) := dq_42 (hz_wg wX10_compare_3 (j := 19) (n := 42) rfl)
theorem dX10_compare_212 : decode cX10_compare 212 = .ok (.getfield 252, 3) := dq_180 (hz_wg wX10_compare_3 (j := 20) (n := 180) rfl) (hz_wg wX10_compare_3 (j := 21) (n := 0) rfl) (hz_wg wX10_compare_3 (j := 22) (n := 252) rfl) rfl
theorem dX10_compare_215 : decode cX10_compare 215 = .ok (.iadd, 1) := dq_96 (hz_wg wX10_compare_3 (j := 23) (n := 96) rfl)
theorem dX10_compare_216 : decode cX10_compare 216 = .ok (.putfield 245, 3) := dq_181 (hz_wg wX10_compare_3 (j := 24) (n := 181) rfl) (hz_wg wX10_compare_3 (j := 25) (n := 0) rfl) (hz_wg wX10_compare_3 (j := 26) (n := 245) rfl) rfl
theorem dX10_compare_219 : decode cX10_compare 219 = .ok (.aload_n 0, 1) := dq_42 (hz_wg wX10_compare_3 (j := 27) (n := 42) rfl)
theorem dX10_compare_220 : decode cX10_compare 220 = .ok (.iload_n 1, 1) := dq_27 (hz_wg wX10_compare_3 (j := 28) (n := 27) rfl)
theorem dX10_compare_221 : decode cX10_compare 221 = .ok (.iconst 3, 1) := dq_6 (hz_wg wX10_compare_3 (j := 29) (n := 6) rfl)
theorem dX10_compare_222 : decode cX10_compare 222 = .ok (.isub, 1) := dq_100 (hz_wg wX10_compare_3 (j := 30) (n := 100) rfl)
theorem dX10_compare_223 : decode cX10_compare 223 = .ok (.iload 4, 2) := dq_21 (hz_wg wX10_compare_3 (j := 31) (n := 21) rfl) (hz_wg wX10_compare_3 (j := 32) (n := 4) rfl)
theorem dX10_compare_225 : decode cX10_compare 225 = .ok (.sipush 10000, 3) := dq_17 (hz_wg wX10_compare_3 (j := 33) (n := 17) rfl) (hz_wg wX10_compare_3 (j := 34) (n := 39) rfl) (hz_wg wX10_compare_3 (j := 35) (n := 16) rfl) (by decide)
theorem dX10_compare_228 : decode cX10_compare 228 = .ok (.iload 5, 2) := dq_21 (hz_wg wX10_compare_3 (j := 36) (n := 21) rfl) (hz_wg wX10_compare_3 (j := 37) (n := 5) rfl)
theorem dX10_compare_230 : decode cX10_compare 230 = .ok (.iadd, 1) := dq_96 (hz_wg wX10_compare_3 (j := 38) (n := 96) rfl)
theorem dX10_compare_231 : decode cX10_compare 231 = .ok (.iconst 3, 1) := dq_6 (hz_wg wX10_compare_3 (j := 39) (n := 6) rfl)
theorem dX10_compare_232 : decode cX10_compare 232 = .ok (.isub, 1) := dq_100 (hz_wg wX10_compare_3 (j := 40) (n := 100) rfl)
theorem dX10_compare_233 : decode cX10_compare 233 = .ok (.invokestatic 280, 3) := dq_184 (hz_wg wX10_compare_3 (j := 41) (n := 184) rfl) (hz_wg wX10_compare_3 (j := 42) (n := 1) rfl) (hz_wg wX10_compare_3 (j := 43) (n := 24) rfl) rfl
theorem dX10_compare_236 : decode cX10_compare 236 = .ok (.invokevirtual 284, 3) := dq_182 (hz_wg wX10_compare_3 (j := 44) (n := 182) rfl) (hz_wg wX10_compare_3 (j := 45) (n := 1) rfl) (hz_wg wX10_compare_3 (j := 46) (n := 28) rfl) rfl
theorem dX10_compare_239 : decode cX10_compare 239 = .ok (.iconst 1, 1) := dq_4 (hz_wg wX10_compare_3 (j := 47) (n := 4) rfl)
theorem dX10_compare_240 : decode cX10_compare 240 = .ok (.ireturn, 1) := dq_172 (hz_wg wX10_compare_3 (j := 48) (n := 172) rfl)
theorem dX10_compare_241 : decode cX10_compare 241 = .ok (.aload_n 0, 1) := dq_42 (hz_wg wX10_compare_3 (j := 49) (n := 42) rfl)
theorem dX10_compare_242 : decode cX10_compare 242 = .ok (.iconst 0, 1) := dq_3 (hz_wg wX10_compare_3 (j := 50) (n := 3) rfl)
theorem dX10_compare_243 : decode cX10_compare 243 = .ok (.sipush 9999, 3) := dq_17 (hz_wg wX10_compare_3 (j := 51) (n := 17) rfl) (hz_wg wX10_compare_3 (j := 52) (n := 39) rfl) (hz_wg wX10_compare_3 (j := 53) (n := 15) rfl) (by decide)
theorem dX10_compare_246 : decode cX10_compare 246 = .ok (.invokevirtual 287, 3) := dq_182 (hz_wg wX10_compare_3 (j := 54) (n := 182) rfl) (hz_wg wX10_compare_3 (j := 55) (n := 1) rfl) (hz_wg wX10_compare_3 (j := 56) (n := 31) rfl) rfl
theorem dX10_compare_249 : decode cX10_compare 249 = .ok (.ifCond .ne 5, 3) := dq_154 (hz_wg wX10_compare_3 (j := 57) (n := 154) rfl) (hz_wg wX10_compare_3 (j := 58) (n := 0) rfl) (hz_wg wX10_compare_3 (j := 59) (n := 5) rfl) (by decide)
theorem dX10_compare_252 : decode cX10_compare 252 = .ok (.iconst 0, 1) := dq_3 (hz_wg wX10_compare_3 (j := 60) (n := 3) rfl)
theorem dX10_compare_253 : decode cX10_compare 253 = .ok (.ireturn, 1) := dq_172 (hz_wg wX10_compare_3 (j := 61) (n := 172) rfl)
theorem dX10_compare_254 : decode cX10_compare 254 = .ok (.aload_n 0, 1) := dq_42 (hz_wg wX10_compare_3 (j := 62) (n := 42) rfl)
theorem dX10_compare_255 : decode cX10_compare 255 = .ok (.iload_n 1, 1) := dq_27 (hz_wg wX10_compare_3 (j := 63) (n := 27) rfl)
theorem dX10_compare_256 : decode cX10_compare 256 = .ok (.iconst 3, 1) := dq_6 (hz_wg wX10_compare_4 (j := 0) (n := 6) rfl)
theorem dX10_compare_257 : decode cX10_compare 257 = .ok (.isub, 1) := dq_100 (hz_wg wX10_compare_4 (j := 1) (n := 100) rfl)
theorem dX10_compare_258 : decode cX10_compare 258 = .ok (.iload 4, 2) := dq_21 (hz_wg wX10_compare_4 (j := 2) (n := 21) rfl) (hz_wg wX10_compare_4 (j := 3) (n := 4) rfl)
theorem dX10_compare_260 : decode cX10_compare 260 = .ok (.aload_n 0, 1) := dq_42 (hz_wg wX10_compare_4 (j := 4) (n := 42) rfl)
theorem dX10_compare_261 : decode cX10_compare 261 = .ok (.getfield 259, 3) := dq_180 (hz_wg wX10_compare_4 (j := 5) (n := 180) rfl) (hz_wg wX10_compare_4 (j := 6) (n := 1) rfl) (hz_wg wX10_compare_4 (j := 7) (n := 3) rfl) rfl
theorem dX10_compare_264 : decode cX10_compare 264 = .ok (.invokestatic 280, 3) := dq_184 (hz_wg wX10_compare_4 (j := 8) (n := 184) rfl) (hz_wg wX10_compare_4 (j := 9) (n := 1) rfl) (hz_wg wX10_compare_4 (j := 10) (n := 24) rfl) rfl
theorem dX10_compare_267 : decode cX10_compare 267 = .ok (.invokevirtual 284, 3) := dq_182 (hz_wg wX10_compare_4 (j := 11) (n := 182) rfl) (hz_wg wX10_compare_4 (j := 12) (n := 1) rfl) (hz_wg wX10_compare_4 (j := 13) (n := 28) rfl) rfl
theorem dX10_compare_270 : decode cX10_compare 270 = .ok (.iconst 1, 1) := dq_4 (hz_wg wX10_compare_4 (j := 14) (n := 4) rfl)
theorem dX10_compare_271 : decode cX10_compare 271 = .ok (.ireturn, 1) := dq_172 (hz_wg wX10_compare_4 (j := 15) (n := 172) rfl)
set_option maxHeartbeats 4000000 in
set_option maxRecDepth 100000 in
theorem t_X10_compare (l : Launch) (dC : Nat → ClassId) (dI : Nat → Nat → Nat) (dA : Nat → ClassId) (L : List Nat) (h : hx_h) (sz : Nat) (x : Nat) (i1 : Int32) (hT : hx_T T_tb L h) (gx : hx_g L h x 10) (qs : Nat) (gqs : hx_g L h qs 55) (f_x_15 : h.2.2 x 15 = some qs) (qo : Nat) (gqo : hx_g L h qo 56) (f_x_17 : h.2.2 x 17 = some qo) (qt : Nat) (gqt : hx_g L h qt 53) (f_x_6 : h.2.2 x 6 = some qt) (qw : Nat) (gqw : hx_g L h qw 57) (f_x_19 : h.2.2 x 19 = some qw) (sf : Nat → Int32) (af_qs : h.2.1 qs = sf) (of : Nat → Int32) (af_qo : h.2.1 qo = of) (tf : Nat → Int32) (af_qt : h.2.1 qt = tf) (wf : Nat → Int32) (af_qw : h.2.1 qw = wf) (cp0 : Int32) (f_x_16 : h.2.1 x 16 = cp0) (nx0 : Int32) (f_x_8 : h.2.1 x 8 = nx0) (st0 : Int32) (f_x_14 : h.2.1 x 14 = st0) (op0 : Int32) (f_x_18 : h.2.1 x 18 = op0) (tp0 : Int32) (f_x_7 : h.2.1 x 7 = tp0) (ws0 : Int32) (f_x_11 : h.2.1 x 11 = ws0) (hQ : hx_QQ 0 cp0.toInt nx0.toInt st0.toInt op0.toInt sf of) (hws : 3 ≤ i1.toInt ∧ i1.toInt ≤ 10 → 3 ≤ ws0.toInt ∧ nx0.toInt + ws0.toInt ≤ tp0.toInt) (hwd : hx_wd wf) : Met l yX10_compare (Cond.code yX10_compare cX10_compare 6 (some .boolean) :: hx_all) ({ frames := 2, cells := 0, slots := 0, locals := 48 }) (va_Pc [.ref x, .int i1] (hx_B T_tb (P_ty dA) (dC, dI) vwCl L h sz)) (va_Qi (fun (r : Int32) (u : List Nat × hx_h) => (∃ (cp1 : Int32) (nx1 : Int32) (st1 : Int32) (sf1 : Nat → Int32), u.2.2.1 x 16 = cp1 ∧ u.2.2.1 x 8 = nx1 ∧ u.2.2.1 x 14 = st1 ∧ u.2.2.1 qs = sf1 ∧ ((r.toInt = 0 ∨ r.toInt = 1) ∧ nx0.toInt ≤ nx1.toInt ∧ (r.toInt = 1 → hx_QQ 1 cp1.toInt nx1.toInt st1.toInt op0.toInt sf1 of))) ∧ hx_T T_tb u.1 u.2 ∧ hx_S T_tb [(10, 8), (10, 9), (10, 10), (10, 11), (10, 14), (10, 16), (55, 0)] L h u.1 u.2) (hx_E T_tb (P_ty dA) (dC, dI) vwCl (hx_A L sz)) (hx_A L sz)) 0 0 (hx_A L sz) := by
  refine hx_met (lv := [(0, .ref x), (1, .int i1)]) (by decide +kernel) rfl (Nat.le_of_ble_eq_true rfl) rfl ?_
  intro p e s m below meth c hx hb hml hr hlk hts0 hown hin hsz hW ls hl
  have hts : ∀ w ∈ hx_all, w.before _ s = true := fun w hw => hts0 w (List.mem_cons_of_mem _ hw)
  have hown : s.vm.findClass "SmallCourtModel" = some m.cls := hown
  have hM : hx_S T_tb [(10, 8), (10, 9), (10, 10), (10, 11), (10, 14), (10, 16), (55, 0)] L h L h := hx_S.rf
  have b_cp0 := hT.gi gx tt_10 (k := 16) rfl
  rw [f_x_16] at b_cp0
  have b_cp0 : 0 ≤ cp0.toInt ∧ cp0.toInt ≤ 20 := b_cp0
  have b_nx0 := hT.gi gx tt_10 (k := 8) rfl
  rw [f_x_8] at b_nx0
  have b_nx0 : 0 ≤ nx0.toInt ∧ nx0.toInt ≤ 402 := b_nx0
  have b_st0 := hT.gi gx tt_10 (k := 14) rfl
  rw [f_x_14] at b_st0
  have b_st0 : 0 ≤ st0.toInt ∧ st0.toInt ≤ 128 := b_st0
  have b_op0 := hT.gi gx tt_10 (k := 18) rfl
  rw [f_x_18] at b_op0
  have b_op0 : 0 ≤ op0.toInt ∧ op0.toInt ≤ 128 := b_op0
  have b_tp0 := hT.gi gx tt_10 (k := 7) rfl
  rw [f_x_7] at b_tp0
  have b_tp0 : 0 ≤ tp0.toInt ∧ tp0.toInt ≤ 400 := b_tp0
  have b_ws0 := hT.gi gx tt_10 (k := 11) rfl
  rw [f_x_11] at b_ws0
  have b_ws0 : 0 ≤ ws0.toInt ∧ ws0.toInt ≤ 400 := b_ws0
  refine lv_iload_n hx hb dX10_compare_0 rfl (lv_at hl 1 rfl) ?_
  refine hx_goi (hx_runS (As := [.int i1]) (rest := []) ⟨hx, hb, hml, hown, hts⟩ hW (t_X10_isFact l dC dI dA L h s.heap.size i1 hT) (va_cwS 1 hts (hx_gS kw_1499 kw_1497 kw_1498 kw_103) rfl rfl rfl (by decide +kernel) ⟨Nat.le_of_ble_eq_true rfl, Nat.le_of_ble_eq_true rfl⟩) rfl hl.1 rfl (Nat.le_of_ble_eq_true rfl) dX10_compare_1 ⟨Nat.le_of_ble_eq_true rfl, Nat.le_of_ble_eq_true rfl⟩) hW (fun r_3 L_1 h_2 H locs p_4 hW => ?_)
  obtain ⟨hr_5, hT, hs⟩ := p_4
  replace hT : hx_T T_tb L_1 h_2 := hT
  replace hs : hx_S T_tb [] L h L_1 h_2 := hs
  replace f_x_16 := (hs.o (gx.S hM) trivial rfl).1.trans f_x_16
  replace f_x_8 := (hs.o (gx.S hM) trivial rfl).1.trans f_x_8
  replace f_x_14 := (hs.o (gx.S hM) trivial rfl).1.trans f_x_14
  replace f_x_11 := (hs.o (gx.S hM) trivial rfl).1.trans f_x_11
  replace af_qs : h_2.2.1 qs = sf := (funext fun j => (hs.a (gqs.S hM) rfl j).1).trans af_qs
  replace hM := hM.tr (hs.mono (by decide))
  refine hb_if_ne (zx := r_3.toInt) (tgt := 17) hx hb rfl dX10_compare_4 (by decide) (fun c_6 => ?_) (fun c_6 => ?_)
  · skip
    replace hr_5 := hr_5.resolve_left (fun z9 => c_6 z9.1)
    replace c_6 := hr_5.1
    replace hr_5 := hr_5.2
    have hws9 := hws (by omega)
    have hif9 : 3 ≤ i1.toInt ∧ i1.toInt ≤ 10 := by omega
    clear hws hr_5
    refine lv_aload_n hx hb dX10_compare_17 rfl (lv_at hl 0 rfl) ?_
    refine hk_geti hx hb hts hC_10 hown hW (gx.S hM) tt_10 16 (by decide) rfl kw_1159 ⟨rfl, rfl, rfl⟩ f_x_16 dX10_compare_18 ?_
    refine lv_bipush (v := 20) hx hb dX10_compare_21 (by decide) ?_
    refine hb_icmp_ne (zx := cp0.toInt) (zy := 20) (tgt := 36) hx hb rfl (by decide) dX10_compare_23 (by decide) (fun c_7 => ?_) (fun c_7 => ?_)
    · skip
      refine lv_aload_n hx hb dX10_compare_36 rfl (lv_at hl 0 rfl) ?_
      refine lv_dup hx hb dX10_compare_37 rfl ?_
      refine hk_geti hx hb hts hC_10 hown hW (gx.S hM) tt_10 16 (by decide) rfl kw_1159 ⟨rfl, rfl, rfl⟩ f_x_16 dX10_compare_38 ?_
      refine lv_iconst (v := 1) hx hb dX10_compare_41 (by decide) ?_
      refine lv_iadd hx hb dX10_compare_42 ?_
      have rg_8 := i32_r cp0
      refine lv_topi (fun x_9 ex_9 => ?_)
      have zx_9 : x_9.toInt = cp0.toInt + 1 := by rw [ex_9]; exact i32_add rfl (by decide) (by omega) (by omega)
      refine hx_puti hx hb hts hC_10 hown hW hT (hx_S.rf (M := [(10, 16)])) (gx.S hM) tt_10 16 (by decide) rfl kw_1159 ⟨rfl, rfl, rfl⟩ rfl (x := x_9) ⟨by omega, by omega⟩ rfl rfl rfl (List.mem_singleton.mpr rfl) dX10_compare_43 (fun H locs h_10 eh_10 hW hT hs => ?_)
      replace f_x_8 := (hs.o (gx.S hM) trivial rfl).1.trans f_x_8
      replace f_x_14 := (hs.o (gx.S hM) trivial rfl).1.trans f_x_14
      replace f_x_11 := (hs.o (gx.S hM) trivial rfl).1.trans f_x_11
      replace af_qs : h_10.2.1 qs = sf := (funext fun j => (hs.a (gqs.S hM) rfl j).1).trans af_qs
      replace hM := hM.tr (hs.mono (by decide))
      have f_11 : h_10.2.1 x 16 = x_9 := by rw [eh_10]; exact hx_pi_at _ _ _ _
      refine lv_aload_n hx hb dX10_compare_46 rfl (lv_at hl 0 rfl) ?_
      refine lv_dup hx hb dX10_compare_47 rfl ?_
      refine hk_geti hx hb hts hC_10 hown hW (gx.S hM) tt_10 8 (by decide) rfl kw_1151 ⟨rfl, rfl, rfl⟩ f_x_8 dX10_compare_48 ?_
      refine lv_aload_n hx hb dX10_compare_51 rfl (lv_at hl 0 rfl) ?_
      refine hk_geti hx hb hts hC_10 hown hW (gx.S hM) tt_10 11 (by decide) rfl kw_1154 ⟨rfl, rfl, rfl⟩ f_x_11 dX10_compare_52 ?_
      refine lv_iadd hx hb dX10_compare_55 ?_
      have rg_12 := i32_r nx0
      have rg_13 := i32_r ws0
      refine lv_topi (fun x_14 ex_14 => ?_)
      have zx_14 : x_14.toInt = nx0.toInt + ws0.toInt := by rw [ex_14]; exact i32_add rfl rfl (by omega) (by omega)
      refine hx_puti hx hb hts hC_10 hown hW hT (hx_S.rf (M := [(10, 8)])) (gx.S hM) tt_10 8 (by decide) rfl kw_1151 ⟨rfl, rfl, rfl⟩ rfl (x := x_14) ⟨by omega, by omega⟩ rfl rfl rfl (List.mem_singleton.mpr rfl) dX10_compare_56 (fun H locs h_15 eh_15 hW hT hs => ?_)
      replace f_x_14 := (hs.o (gx.S hM) trivial rfl).1.trans f_x_14
      replace f_x_11 := (hs.o (gx.S hM) trivial rfl).1.trans f_x_11
      replace f_11 := (hs.o (gx.S hM) trivial rfl).1.trans f_11
      replace af_qs : h_15.2.1 qs = sf := (funext fun j => (hs.a (gqs.S hM) rfl j).1).trans af_qs
      replace hM := hM.tr (hs.mono (by decide))
      have f_16 : h_15.2.1 x 8 = x_14 := by rw [eh_15]; exact hx_pi_at _ _ _ _
      refine lv_aload_n hx hb dX10_compare_59 rfl (lv_at hl 0 rfl) ?_
      refine hx_goi (hx_runV (As := []) (rest := []) ⟨hx, hb, hml, hown, hts⟩ hW (gx.S hM) tt_10 (T := TX10) (N := 98) rfl (t_X10_see l dC dI dA L_1 h_15 H.size x hT (gx.S hM) qt (gqt.S hM) ((hM.o gx trivial rfl).2.trans f_x_6) tf (hx_afS hM gqt rfl af_qt) x_14 f_16 tp0 ((hM.o gx trivial rfl).1.trans f_x_7)) (cwV 0 hts (hx_gV kw_1468 kw_1465 kw_1467 kw_53 kw_103) rfl rfl rfl (by decide +kernel) ⟨Nat.le_of_ble_eq_true rfl, Nat.le_of_ble_eq_true rfl⟩) rfl hl.1 rfl (Nat.le_of_ble_eq_true rfl) dX10_compare_60 ⟨Nat.le_of_ble_eq_true rfl, Nat.le_of_ble_eq_true rfl⟩) hW (fun r_19 L_17 h_18 H locs p_20 hW => ?_)
      obtain ⟨⟨w_22, fw_22, hr_21⟩, hT, hs⟩ := p_20
      replace hT : hx_T T_tb L_17 h_18 := hT
      replace hs : hx_S T_tb [(10, 8)] L_1 h_15 L_17 h_18 := hs
      replace f_x_14 := (hs.o (gx.S hM) trivial rfl).1.trans f_x_14
      replace f_x_11 := (hs.o (gx.S hM) trivial rfl).1.trans f_x_11
      replace f_11 := (hs.o (gx.S hM) trivial rfl).1.trans f_11
      replace af_qs : h_18.2.1 qs = sf := (funext fun j => (hs.a (gqs.S hM) rfl j).1).trans af_qs
      replace hM := hM.tr (hs.mono (by decide))
      have fw_22 : h_18.2.1 x 8 = w_22 := fw_22
      have bw_22 := hT.gi (gx.S hM) tt_10 (k := 8) rfl
      rw [fw_22] at bw_22
      have bw_22 : 0 ≤ w_22.toInt ∧ w_22.toInt ≤ 402 := bw_22
      refine lv_istore_n (lv' := [(2, .int r_19), (0, .ref x), (1, .int i1)]) hx hb dX10_compare_63 rfl hl (by decide) rfl (fun ls hl => ?_)
      have hse9 := And.intro hr_21.1 (show w_22.toInt ≤ tp0.toInt by rcases hr_21.2.1 with q | q <;> omega)
      refine lv_iload_n hx hb dX10_compare_64 rfl (lv_at hl 0 rfl) ?_
      refine lv_bipush (v := 60) hx hb dX10_compare_65 (by decide) ?_
      refine hb_icmp_eq (zx := r_19.toInt) (zy := 60) (tgt := 92) hx hb rfl (by decide) dX10_compare_67 (by decide) (fun c_23 => ?_) (fun c_23 => ?_)
      · skip
        have hsl9 : w_22.toInt < tp0.toInt := by rcases hr_21.2.2 with q | q; (exfalso; omega); exact q.1
        clear hr_21
        refine lv_aload_n hx hb dX10_compare_92 rfl (lv_at hl 1 rfl) ?_
        refine lv_dup hx hb dX10_compare_93 rfl ?_
        refine hk_geti hx hb hts hC_10 hown hW (gx.S hM) tt_10 8 (by decide) rfl kw_1151 ⟨rfl, rfl, rfl⟩ fw_22 dX10_compare_94 ?_
        refine lv_iconst (v := 1) hx hb dX10_compare_97 (by decide) ?_
        refine lv_iadd hx hb dX10_compare_98 ?_
        have rg_24 := i32_r w_22
        refine lv_topi (fun x_25 ex_25 => ?_)
        have zx_25 : x_25.toInt = w_22.toInt + 1 := by rw [ex_25]; exact i32_add rfl (by decide) (by omega) (by omega)
        refine hx_puti hx hb hts hC_10 hown hW hT (hx_S.rf (M := [(10, 8)])) (gx.S hM) tt_10 8 (by decide) rfl kw_1151 ⟨rfl, rfl, rfl⟩ rfl (x := x_25) ⟨by omega, by omega⟩ rfl rfl rfl (List.mem_singleton.mpr rfl) dX10_compare_99 (fun H locs h_26 eh_26 hW hT hs => ?_)
        replace f_x_14 := (hs.o (gx.S hM) trivial rfl).1.trans f_x_14
        replace f_x_11 := (hs.o (gx.S hM) trivial rfl).1.trans f_x_11
        replace f_11 := (hs.o (gx.S hM) trivial rfl).1.trans f_11
        replace af_qs : h_26.2.1 qs = sf := (funext fun j => (hs.a (gqs.S hM) rfl j).1).trans af_qs
        replace hM := hM.tr (hs.mono (by decide))
        have f_27 : h_26.2.1 x 8 = x_25 := by rw [eh_26]; exact hx_pi_at _ _ _ _
        refine lv_iload_n hx hb dX10_compare_102 rfl (lv_at hl 0 rfl) ?_
        refine lv_bipush (v := 61) hx hb dX10_compare_103 (by decide) ?_
        refine hb_icmp_eq (zx := r_19.toInt) (zy := 61) (tgt := 137) hx hb rfl (by decide) dX10_compare_105 (by decide) (fun c_28 => by exfalso; omega) (fun c_28 => ?_)
        refine lv_aload_n hx hb dX10_compare_108 rfl (lv_at hl 1 rfl) ?_
        refine hk_geti hx hb hts hC_10 hown hW (gx.S hM) tt_10 8 (by decide) rfl kw_1151 ⟨rfl, rfl, rfl⟩ f_27 dX10_compare_109 ?_
        refine lv_aload_n hx hb dX10_compare_112 rfl (lv_at hl 1 rfl) ?_
        refine hk_geti hx hb hts hC_10 hown hW (gx.S hM) tt_10 7 (by decide) rfl kw_1150 ⟨rfl, rfl, rfl⟩ ((hM.o gx trivial rfl).1.trans f_x_7) dX10_compare_113 ?_
        refine hb_icmp_ge (zx := x_25.toInt) (zy := tp0.toInt) (tgt := 137) hx hb rfl rfl dX10_compare_116 (by decide) (fun c_29 => ?_) (fun c_29 => ?_)
        · skip
          refine lv_iconst (v := 0) hx hb dX10_compare_137 (by decide) ?_
          refine lv_istore_n (lv' := [(3, .int (0 : Int32)), (2, .int r_19), (0, .ref x), (1, .int i1)]) hx hb dX10_compare_138 rfl hl (by decide) rfl (fun ls hl => ?_)
          refine lv_iload_n hx hb dX10_compare_139 rfl (lv_at hl 0 rfl) ?_
          refine hb_if_eq (zx := 0) (tgt := 153) hx hb (by decide) dX10_compare_140 (by decide) (fun c_30 => ?_) (fun c_30 => absurd c_30 (by decide))
          refine lv_iload_n hx hb dX10_compare_153 rfl (lv_at hl 1 rfl) ?_
          refine lv_bipush (v := 60) hx hb dX10_compare_154 (by decide) ?_
          refine hb_icmp_ne (zx := r_19.toInt) (zy := 60) (tgt := 171) hx hb rfl (by decide) dX10_compare_156 (by decide) (fun c_31 => by exfalso; omega) (fun c_31 => ?_)
          refine lv_iload_n hx hb dX10_compare_159 rfl (lv_at hl 0 rfl) ?_
          refine hb_if_eq (zx := 0) (tgt := 167) hx hb (by decide) dX10_compare_160 (by decide) (fun c_32 => ?_) (fun c_32 => absurd c_32 (by decide))
          refine lv_iconst (v := 0) hx hb dX10_compare_167 (by decide) ?_
          refine lv_goto (tgt := 190) hx hb dX10_compare_168 (by decide) ?_
          refine lv_istore (lv' := [(4, .int (0 : Int32)), (3, .int (0 : Int32)), (2, .int r_19), (0, .ref x), (1, .int i1)]) hx hb dX10_compare_190 hl (by decide) rfl (fun ls hl => ?_)
          refine lv_aload_n hx hb dX10_compare_192 rfl (lv_at hl 3 rfl) ?_
          refine hx_goi (hx_runV (As := []) (rest := []) ⟨hx, hb, hml, hown, hts⟩ hW (gx.S hM) tt_10 (T := TX10) (N := 98) rfl (t_X10_wordHere l dC dI dA L_17 h_26 H.size x hT (gx.S hM) qt (gqt.S hM) ((hM.o gx trivial rfl).2.trans f_x_6) qw (gqw.S hM) ((hM.o gx trivial rfl).2.trans f_x_19) tf (hx_afS hM gqt rfl af_qt) wf (hx_afS hM gqw rfl af_qw) x_25 f_27 tp0 ((hM.o gx trivial rfl).1.trans f_x_7) hwd) (cwV 0 hts (hx_gV kw_1476 kw_1473 kw_1475 kw_55 kw_103) rfl rfl rfl (by decide +kernel) ⟨Nat.le_of_ble_eq_true rfl, Nat.le_of_ble_eq_true rfl⟩) rfl hl.1 rfl (Nat.le_of_ble_eq_true rfl) dX10_compare_193 ⟨Nat.le_of_ble_eq_true rfl, Nat.le_of_ble_eq_true rfl⟩) hW (fun r_35 L_33 h_34 H locs p_36 hW => ?_)
          obtain ⟨⟨w_38, w_39, fw_38, fw_39, hr_37⟩, hT, hs⟩ := p_36
          replace hT : hx_T T_tb L_33 h_34 := hT
          replace hs : hx_S T_tb [(10, 8), (10, 11)] L_17 h_26 L_33 h_34 := hs
          replace f_x_14 := (hs.o (gx.S hM) trivial rfl).1.trans f_x_14
          replace f_11 := (hs.o (gx.S hM) trivial rfl).1.trans f_11
          replace af_qs : h_34.2.1 qs = sf := (funext fun j => (hs.a (gqs.S hM) rfl j).1).trans af_qs
          replace hM := hM.tr (hs.mono (by decide))
          have fw_38 : h_34.2.1 x 8 = w_38 := fw_38
          have bw_38 := hT.gi (gx.S hM) tt_10 (k := 8) rfl
          rw [fw_38] at bw_38
          have bw_38 : 0 ≤ w_38.toInt ∧ w_38.toInt ≤ 402 := bw_38
          have fw_39 : h_34.2.1 x 11 = w_39 := fw_39
          have bw_39 := hT.gi (gx.S hM) tt_10 (k := 11) rfl
          rw [fw_39] at bw_39
          have bw_39 : 0 ≤ w_39.toInt ∧ w_39.toInt ≤ 400 := bw_39
          have hwa9 := And.intro hr_37.1 (And.intro (show w_38.toInt ≤ tp0.toInt by rcases hr_37.2.1 with q | q <;> omega) hr_37.2.2.1)
          have hwb9 := hr_37.2.2.2
          clear hr_37
          refine lv_istore (lv' := [(5, .int r_35), (4, .int (0 : Int32)), (3, .int (0 : Int32)), (2, .int r_19), (0, .ref x), (1, .int i1)]) hx hb dX10_compare_196 hl (by decide) rfl (fun ls hl => ?_)
          refine lv_iload hx hb dX10_compare_198 (lv_at hl 0 rfl) ?_
          refine hx_goi (hx_runS (As := [.int r_35]) (rest := []) ⟨hx, hb, hml, hown, hts⟩ hW (t_X10_isFact l dC dI dA L_33 h_34 H.size r_35 hT) (va_cwS 1 hts (hx_gS kw_1499 kw_1497 kw_1498 kw_103) rfl rfl rfl (by decide +kernel) ⟨Nat.le_of_ble_eq_true rfl, Nat.le_of_ble_eq_true rfl⟩) rfl hl.1 rfl (Nat.le_of_ble_eq_true rfl) dX10_compare_200 ⟨Nat.le_of_ble_eq_true rfl, Nat.le_of_ble_eq_true rfl⟩) hW (fun r_42 L_40 h_41 H locs p_43 hW => ?_)
          obtain ⟨hr_44, hT, hs⟩ := p_43
          replace hT : hx_T T_tb L_40 h_41 := hT
          replace hs : hx_S T_tb [] L_33 h_34 L_40 h_41 := hs
          replace f_x_14 := (hs.o (gx.S hM) trivial rfl).1.trans f_x_14
          replace f_11 := (hs.o (gx.S hM) trivial rfl).1.trans f_11
          replace fw_38 := (hs.o (gx.S hM) trivial rfl).1.trans fw_38
          replace fw_39 := (hs.o (gx.S hM) trivial rfl).1.trans fw_39
          replace af_qs : h_41.2.1 qs = sf := (funext fun j => (hs.a (gqs.S hM) rfl j).1).trans af_qs
          replace hM := hM.tr (hs.mono (by decide))
          refine hb_if_eq (zx := r_42.toInt) (tgt := 241) hx hb rfl dX10_compare_203 (by decide) (fun c_45 => ?_) (fun c_45 => ?_)
          · skip
            replace hr_44 := hr_44.resolve_right (fun z9 => absurd (c_45.symm.trans z9.1) (by decide))
            replace hr_44 := hr_44.2
            clear hwb9 hr_44
            refine lv_aload_n hx hb dX10_compare_241 rfl (lv_at hl 4 rfl) ?_
            refine lv_iconst (v := 0) hx hb dX10_compare_242 (by decide) ?_
            refine lv_sipush (v := 9999) hx hb dX10_compare_243 (by decide) ?_
            have zc_9999 : (9999 : Int32).toInt = 9999 := by decide
            have zc_0 : (0 : Int32).toInt = 0 := by decide
            refine hx_goi (hx_runV (As := [.int (0 : Int32), .int (9999 : Int32)]) (rest := []) ⟨hx, hb, hml, hown, hts⟩ hW (gx.S hM) tt_10 (T := TX10) (N := 98) rfl (t_X10_number l dC dI dA L_40 h_41 H.size x (0 : Int32) (9999 : Int32) hT (gx.S hM) qt (gqt.S hM) ((hM.o gx trivial rfl).2.trans f_x_6) tf (hx_afS hM gqt rfl af_qt) w_38 fw_38 tp0 ((hM.o gx trivial rfl).1.trans f_x_7)) (cwV 2 hts (hx_gV kw_1503 kw_1500 kw_1502 kw_61 kw_103) rfl rfl rfl (by decide +kernel) ⟨Nat.le_of_ble_eq_true rfl, Nat.le_of_ble_eq_true rfl⟩) rfl hl.1 rfl (Nat.le_of_ble_eq_true rfl) dX10_compare_246 ⟨Nat.le_of_ble_eq_true rfl, Nat.le_of_ble_eq_true rfl⟩) hW (fun r_48 L_46 h_47 H locs p_49 hW => ?_)
            obtain ⟨⟨w_51, w_52, fw_51, fw_52, hr_50⟩, hT, hs⟩ := p_49
            replace hT : hx_T T_tb L_46 h_47 := hT
            replace hs : hx_S T_tb [(10, 8), (10, 9), (10, 10)] L_40 h_41 L_46 h_47 := hs
            replace f_x_14 := (hs.o (gx.S hM) trivial rfl).1.trans f_x_14
            replace f_11 := (hs.o (gx.S hM) trivial rfl).1.trans f_11
            replace fw_39 := (hs.o (gx.S hM) trivial rfl).1.trans fw_39
            replace af_qs : h_47.2.1 qs = sf := (funext fun j => (hs.a (gqs.S hM) rfl j).1).trans af_qs
            replace hM := hM.tr (hs.mono (by decide))
            have fw_51 : h_47.2.1 x 8 = w_51 := fw_51
            have bw_51 := hT.gi (gx.S hM) tt_10 (k := 8) rfl
            rw [fw_51] at bw_51
            have bw_51 : 0 ≤ w_51.toInt ∧ w_51.toInt ≤ 402 := bw_51
            have fw_52 : h_47.2.1 x 10 = w_52 := fw_52
            have bw_52 := hT.gi (gx.S hM) tt_10 (k := 10) rfl
            rw [fw_52] at bw_52
            have bw_52 : 0 ≤ w_52.toInt ∧ w_52.toInt ≤ 9999 := bw_52
            refine hb_if_ne (zx := r_48.toInt) (tgt := 254) hx hb rfl dX10_compare_249 (by decide) (fun c_53 => ?_) (fun c_53 => ?_)
            · skip
              have hnu9 := hr_50.2.2.2 (by rcases hr_50.1 with q | q <;> omega); clear hr_50
              have hroom := hx_QQ_room hQ (n1 := w_51.toInt) (by omega) (by omega)
              refine lv_aload_n hx hb dX10_compare_254 rfl (lv_at hl 4 rfl) ?_
              refine lv_iload_n hx hb dX10_compare_255 rfl (lv_at hl 5 rfl) ?_
              refine lv_iconst (v := 3) hx hb dX10_compare_256 (by decide) ?_
              refine lv_isub hx hb dX10_compare_257 ?_
              have rg_54 := i32_r i1
              refine lv_topi (fun x_55 ex_55 => ?_)
              have zx_55 : x_55.toInt = i1.toInt - 3 := by rw [ex_55]; exact i32_sub rfl (by decide) (by omega) (by omega)
              refine lv_iload hx hb dX10_compare_258 (lv_at hl 1 rfl) ?_
              refine lv_aload_n hx hb dX10_compare_260 rfl (lv_at hl 4 rfl) ?_
              refine hk_geti hx hb hts hC_10 hown hW (gx.S hM) tt_10 10 (by decide) rfl kw_1153 ⟨rfl, rfl, rfl⟩ fw_52 dX10_compare_261 ?_
              refine hx_goi (hx_runS (As := [.int x_55, .int (0 : Int32), .int w_52]) (rest := [.ref x]) ⟨hx, hb, hml, hown, hts⟩ hW (t_X10_compareOf l dC dI dA L_46 h_47 H.size x_55 (0 : Int32) w_52 hT ⟨by omega, by omega⟩ (by decide) ⟨by omega, by omega⟩) (va_cwS 3 hts (hx_gS kw_1132 kw_1130 kw_1131 kw_103) rfl rfl rfl (by decide +kernel) ⟨Nat.le_of_ble_eq_true rfl, Nat.le_of_ble_eq_true rfl⟩) rfl hl.1 rfl (Nat.le_of_ble_eq_true rfl) dX10_compare_264 ⟨Nat.le_of_ble_eq_true rfl, Nat.le_of_ble_eq_true rfl⟩) hW (fun r_58 L_56 h_57 H locs p_59 hW => ?_)
              obtain ⟨hr_60, hT, hs⟩ := p_59
              replace hT : hx_T T_tb L_56 h_57 := hT
              replace hs : hx_S T_tb [] L_46 h_47 L_56 h_57 := hs
              replace f_x_14 := (hs.o (gx.S hM) trivial rfl).1.trans f_x_14
              replace f_11 := (hs.o (gx.S hM) trivial rfl).1.trans f_11
              replace fw_39 := (hs.o (gx.S hM) trivial rfl).1.trans fw_39
              replace fw_51 := (hs.o (gx.S hM) trivial rfl).1.trans fw_51
              replace fw_52 := (hs.o (gx.S hM) trivial rfl).1.trans fw_52
              replace af_qs : h_57.2.1 qs = sf := (funext fun j => (hs.a (gqs.S hM) rfl j).1).trans af_qs
              replace hM := hM.tr (hs.mono (by decide))
              refine hx_gov (hx_runV (As := [.int r_58]) (rest := []) ⟨hx, hb, hml, hown, hts⟩ hW (gx.S hM) tt_10 (T := TX10) (N := 98) rfl (t_X10_writes l dC dI dA L_56 h_57 H.size x r_58 hT (gx.S hM) qs (gqs.S hM) ((hM.o gx trivial rfl).2.trans f_x_15) sf af_qs st0 f_x_14 (by omega)) (cwV 1 hts (hx_gV kw_1138 kw_1135 kw_1137 kw_50 kw_103) rfl rfl rfl (by decide +kernel) ⟨Nat.le_of_ble_eq_true rfl, Nat.le_of_ble_eq_true rfl⟩) rfl hl.1 rfl (Nat.le_of_ble_eq_true rfl) dX10_compare_267 ⟨Nat.le_of_ble_eq_true rfl, Nat.le_of_ble_eq_true rfl⟩) hW (fun L_61 h_62 H locs p_64 hW => ?_)
              obtain ⟨⟨w_66, w_67, fw_66, fw_67, hr_65⟩, hT, hs⟩ := p_64
              replace hT : hx_T T_tb L_61 h_62 := hT
              replace hs : hx_S T_tb [(10, 14), (55, 0)] L_56 h_57 L_61 h_62 := hs
              replace f_11 := (hs.o (gx.S hM) trivial rfl).1.trans f_11
              replace fw_39 := (hs.o (gx.S hM) trivial rfl).1.trans fw_39
              replace fw_51 := (hs.o (gx.S hM) trivial rfl).1.trans fw_51
              replace fw_52 := (hs.o (gx.S hM) trivial rfl).1.trans fw_52
              replace hM := hM.tr (hs.mono (by decide))
              have fw_66 : h_62.2.1 x 14 = w_66 := fw_66
              have bw_66 := hT.gi (gx.S hM) tt_10 (k := 14) rfl
              rw [fw_66] at bw_66
              have bw_66 : 0 ≤ w_66.toInt ∧ w_66.toInt ≤ 128 := bw_66
              have fw_67 : h_62.2.1 qs = w_67 := fw_67
              refine lv_iconst (v := 1) hx hb dX10_compare_270 (by decide) ?_
              exact hx_retz hx hb hr rfl hlk hW ⟨⟨x_9, w_51, w_66, w_67, f_11, fw_51, fw_66, fw_67, ⟨by decide, by omega, fun _ => hx_QQ_cmp hQ (by omega) (by omega) (by omega) hr_60 (hx_cl (by omega)) (by omega) hr_65.1 hr_65.2⟩⟩, hT, hM⟩ dX10_compare_271
            · skip
              have hnu9 := hr_50.2.1; clear hr_50
              refine lv_iconst (v := 0) hx hb dX10_compare_252 (by decide) ?_
              exact hx_retz hx hb hr rfl hlk hW ⟨⟨x_9, w_51, st0, sf, f_11, fw_51, f_x_14, af_qs, ⟨by decide, by omega, fun z => absurd z (by decide)⟩⟩, hT, hM⟩ dX10_compare_253
          · skip
            replace hr_44 := hr_44.resolve_left (fun z9 => c_45 z9.1)
            replace c_45 := hr_44.1
            replace hr_44 := hr_44.2
            have hwc9 : 3 ≤ r_35.toInt ∧ r_35.toInt ≤ 10 := by clear hwb9; omega
            clear hr_44
            have hwd9 : w_38.toInt + w_39.toInt ≤ tp0.toInt ∧ 3 ≤ w_39.toInt := by rcases hwb9 with q | ⟨_, _, q1, _, _, _, _, q2, _⟩; (exfalso; omega); exact ⟨q1, q2 hwc9⟩
            clear hwb9
            refine lv_aload_n hx hb dX10_compare_206 rfl (lv_at hl 4 rfl) ?_
            refine lv_dup hx hb dX10_compare_207 rfl ?_
            refine hk_geti hx hb hts hC_10 hown hW (gx.S hM) tt_10 8 (by decide) rfl kw_1151 ⟨rfl, rfl, rfl⟩ fw_38 dX10_compare_208 ?_
            refine lv_aload_n hx hb dX10_compare_211 rfl (lv_at hl 4 rfl) ?_
            refine hk_geti hx hb hts hC_10 hown hW (gx.S hM) tt_10 11 (by decide) rfl kw_1154 ⟨rfl, rfl, rfl⟩ fw_39 dX10_compare_212 ?_
            refine lv_iadd hx hb dX10_compare_215 ?_
            have rg_68 := i32_r w_38
            have rg_69 := i32_r w_39
            refine lv_topi (fun x_70 ex_70 => ?_)
            have zx_70 : x_70.toInt = w_38.toInt + w_39.toInt := by rw [ex_70]; exact i32_add rfl rfl (by omega) (by omega)
            refine hx_puti hx hb hts hC_10 hown hW hT (hx_S.rf (M := [(10, 8)])) (gx.S hM) tt_10 8 (by decide) rfl kw_1151 ⟨rfl, rfl, rfl⟩ rfl (x := x_70) ⟨by omega, by omega⟩ rfl rfl rfl (List.mem_singleton.mpr rfl) dX10_compare_216 (fun H locs h_71 eh_71 hW hT hs => ?_)
            replace f_x_14 := (hs.o (gx.S hM) trivial rfl).1.trans f_x_14
            replace f_11 := (hs.o (gx.S hM) trivial rfl).1.trans f_11
            replace fw_39 := (hs.o (gx.S hM) trivial rfl).1.trans fw_39
            replace af_qs : h_71.2.1 qs = sf := (funext fun j => (hs.a (gqs.S hM) rfl j).1).trans af_qs
            replace hM := hM.tr (hs.mono (by decide))
            have f_72 : h_71.2.1 x 8 = x_70 := by rw [eh_71]; exact hx_pi_at _ _ _ _
            have hroom := hx_QQ_room hQ (n1 := x_70.toInt) (by omega) (by omega)
            refine lv_aload_n hx hb dX10_compare_219 rfl (lv_at hl 4 rfl) ?_
            refine lv_iload_n hx hb dX10_compare_220 rfl (lv_at hl 5 rfl) ?_
            refine lv_iconst (v := 3) hx hb dX10_compare_221 (by decide) ?_
            refine lv_isub hx hb dX10_compare_222 ?_
            have rg_73 := i32_r i1
            refine lv_topi (fun x_74 ex_74 => ?_)
            have zx_74 : x_74.toInt = i1.toInt - 3 := by rw [ex_74]; exact i32_sub rfl (by decide) (by omega) (by omega)
            refine lv_iload hx hb dX10_compare_223 (lv_at hl 1 rfl) ?_
            refine lv_sipush (v := 10000) hx hb dX10_compare_225 (by decide) ?_
            refine lv_iload hx hb dX10_compare_228 (lv_at hl 0 rfl) ?_
            refine lv_iadd hx hb dX10_compare_230 ?_
            have rg_75 := i32_r r_35
            refine lv_topi (fun x_76 ex_76 => ?_)
            have zx_76 : x_76.toInt = 10000 + r_35.toInt := by rw [ex_76]; exact i32_add (by decide) rfl (by omega) (by omega)
            refine lv_iconst (v := 3) hx hb dX10_compare_231 (by decide) ?_
            refine lv_isub hx hb dX10_compare_232 ?_
            have rg_77 := i32_r x_76
            refine lv_topi (fun x_78 ex_78 => ?_)
            have zx_78 : x_78.toInt = x_76.toInt - 3 := by rw [ex_78]; exact i32_sub rfl (by decide) (by omega) (by omega)
            have zc_0 : (0 : Int32).toInt = 0 := by decide
            refine hx_goi (hx_runS (As := [.int x_74, .int (0 : Int32), .int x_78]) (rest := [.ref x]) ⟨hx, hb, hml, hown, hts⟩ hW (t_X10_compareOf l dC dI dA L_40 h_71 H.size x_74 (0 : Int32) x_78 hT ⟨by omega, by omega⟩ (by decide) ⟨by omega, by omega⟩) (va_cwS 3 hts (hx_gS kw_1132 kw_1130 kw_1131 kw_103) rfl rfl rfl (by decide +kernel) ⟨Nat.le_of_ble_eq_true rfl, Nat.le_of_ble_eq_true rfl⟩) rfl hl.1 rfl (Nat.le_of_ble_eq_true rfl) dX10_compare_233 ⟨Nat.le_of_ble_eq_true rfl, Nat.le_of_ble_eq_true rfl⟩) hW (fun r_81 L_79 h_80 H locs p_82 hW => ?_)
            obtain ⟨hr_83, hT, hs⟩ := p_82
            replace hT : hx_T T_tb L_79 h_80 := hT
            replace hs : hx_S T_tb [] L_40 h_71 L_79 h_80 := hs
            replace f_x_14 := (hs.o (gx.S hM) trivial rfl).1.trans f_x_14
            replace f_11 := (hs.o (gx.S hM) trivial rfl).1.trans f_11
            replace fw_39 := (hs.o (gx.S hM) trivial rfl).1.trans fw_39
            replace f_72 := (hs.o (gx.S hM) trivial rfl).1.trans f_72
            replace af_qs : h_80.2.1 qs = sf := (funext fun j => (hs.a (gqs.S hM) rfl j).1).trans af_qs
            replace hM := hM.tr (hs.mono (by decide))
            refine hx_gov (hx_runV (As := [.int r_81]) (rest := []) ⟨hx, hb, hml, hown, hts⟩ hW (gx.S hM) tt_10 (T := TX10) (N := 98) rfl (t_X10_writes l dC dI dA L_79 h_80 H.size x r_81 hT (gx.S hM) qs (gqs.S hM) ((hM.o gx trivial rfl).2.trans f_x_15) sf af_qs st0 f_x_14 (by omega)) (cwV 1 hts (hx_gV kw_1138 kw_1135 kw_1137 kw_50 kw_103) rfl rfl rfl (by decide +kernel) ⟨Nat.le_of_ble_eq_true rfl, Nat.le_of_ble_eq_true rfl⟩) rfl hl.1 rfl (Nat.le_of_ble_eq_true rfl) dX10_compare_236 ⟨Nat.le_of_ble_eq_true rfl, Nat.le_of_ble_eq_true rfl⟩) hW (fun L_84 h_85 H locs p_87 hW => ?_)
            obtain ⟨⟨w_89, w_90, fw_89, fw_90, hr_88⟩, hT, hs⟩ := p_87
            replace hT : hx_T T_tb L_84 h_85 := hT
            replace hs : hx_S T_tb [(10, 14), (55, 0)] L_79 h_80 L_84 h_85 := hs
            replace f_11 := (hs.o (gx.S hM) trivial rfl).1.trans f_11
            replace fw_39 := (hs.o (gx.S hM) trivial rfl).1.trans fw_39
            replace f_72 := (hs.o (gx.S hM) trivial rfl).1.trans f_72
            replace hM := hM.tr (hs.mono (by decide))
            have fw_89 : h_85.2.1 x 14 = w_89 := fw_89
            have bw_89 := hT.gi (gx.S hM) tt_10 (k := 14) rfl
            rw [fw_89] at bw_89
            have bw_89 : 0 ≤ w_89.toInt ∧ w_89.toInt ≤ 128 := bw_89
            have fw_90 : h_85.2.1 qs = w_90 := fw_90
            refine lv_iconst (v := 1) hx hb dX10_compare_239 (by decide) ?_
            exact hx_retz hx hb hr rfl hlk hW ⟨⟨x_9, x_70, w_89, w_90, f_11, f_72, fw_89, fw_90, ⟨by decide, by omega, fun _ => hx_QQ_cmp hQ (by omega) (by omega) (by omega) hr_83 (hx_cl (by omega)) (by omega) hr_88.1 hr_88.2⟩⟩, hT, hM⟩ dX10_compare_240
        · skip
          refine lv_aload_n hx hb dX10_compare_119 rfl (lv_at hl 1 rfl) ?_
          refine hk_getr hx hb hts hC_10 hown hW (gx.S hM) tt_10 6 (by decide) rfl kw_1149 ⟨rfl, rfl, rfl⟩ ((hM.o gx trivial rfl).2.trans f_x_6) dX10_compare_120 ?_
          refine lv_aload_n hx hb dX10_compare_123 rfl (lv_at hl 1 rfl) ?_
          refine hk_geti hx hb hts hC_10 hown hW (gx.S hM) tt_10 8 (by decide) rfl kw_1151 ⟨rfl, rfl, rfl⟩ f_27 dX10_compare_124 ?_
          refine hx_bald hx hb hW hT (gqt.S hM) tt_53 rfl ⟨by omega, by omega⟩ dX10_compare_127 (fun x_91 ex_91 lx_91 ux_91 => ?_)
          have ax_91 : x_91 = tf x_25.toNatClampNeg := ex_91.trans (congrFun (hx_afS hM gqt rfl af_qt) _)
          refine lv_bipush (v := 61) hx hb dX10_compare_128 (by decide) ?_
          refine hb_icmp_ne (zx := x_91.toInt) (zy := 61) (tgt := 137) hx hb rfl (by decide) dX10_compare_130 (by decide) (fun c_92 => ?_) (fun c_92 => ?_)
          · skip
            refine lv_iconst (v := 0) hx hb dX10_compare_137 (by decide) ?_
            refine lv_istore_n (lv' := [(3, .int (0 : Int32)), (2, .int r_19), (0, .ref x), (1, .int i1)]) hx hb dX10_compare_138 rfl hl (by decide) rfl (fun ls hl => ?_)
            refine lv_iload_n hx hb dX10_compare_139 rfl (lv_at hl 0 rfl) ?_
            refine hb_if_eq (zx := 0) (tgt := 153) hx hb (by decide) dX10_compare_140 (by decide) (fun c_93 => ?_) (fun c_93 => absurd c_93 (by decide))
            refine lv_iload_n hx hb dX10_compare_153 rfl (lv_at hl 1 rfl) ?_
            refine lv_bipush (v := 60) hx hb dX10_compare_154 (by decide) ?_
            refine hb_icmp_ne (zx := r_19.toInt) (zy := 60) (tgt := 171) hx hb rfl (by decide) dX10_compare_156 (by decide) (fun c_94 => by exfalso; omega) (fun c_94 => ?_)
            refine lv_iload_n hx hb dX10_compare_159 rfl (lv_at hl 0 rfl) ?_
            refine hb_if_eq (zx := 0) (tgt := 167) hx hb (by decide) dX10_compare_160 (by decide) (fun c_95 => ?_) (fun c_95 => absurd c_95 (by decide))
            refine lv_iconst (v := 0) hx hb dX10_compare_167 (by decide) ?_
            refine lv_goto (tgt := 190) hx hb dX10_compare_168 (by decide) ?_
            refine lv_istore (lv' := [(4, .int (0 : Int32)), (3, .int (0 : Int32)), (2, .int r_19), (0, .ref x), (1, .int i1)]) hx hb dX10_compare_190 hl (by decide) rfl (fun ls hl => ?_)
            refine lv_aload_n hx hb dX10_compare_192 rfl (lv_at hl 3 rfl) ?_
            refine hx_goi (hx_runV (As := []) (rest := []) ⟨hx, hb, hml, hown, hts⟩ hW (gx.S hM) tt_10 (T := TX10) (N := 98) rfl (t_X10_wordHere l dC dI dA L_17 h_26 H.size x hT (gx.S hM) qt (gqt.S hM) ((hM.o gx trivial rfl).2.trans f_x_6) qw (gqw.S hM) ((hM.o gx trivial rfl).2.trans f_x_19) tf (hx_afS hM gqt rfl af_qt) wf (hx_afS hM gqw rfl af_qw) x_25 f_27 tp0 ((hM.o gx trivial rfl).1.trans f_x_7) hwd) (cwV 0 hts (hx_gV kw_1476 kw_1473 kw_1475 kw_55 kw_103) rfl rfl rfl (by decide +kernel) ⟨Nat.le_of_ble_eq_true rfl, Nat.le_of_ble_eq_true rfl⟩) rfl hl.1 rfl (Nat.le_of_ble_eq_true rfl) dX10_compare_193 ⟨Nat.le_of_ble_eq_true rfl, Nat.le_of_ble_eq_true rfl⟩) hW (fun r_98 L_96 h_97 H locs p_99 hW => ?_)
            obtain ⟨⟨w_101, w_102, fw_101, fw_102, hr_100⟩, hT, hs⟩ := p_99
            replace hT : hx_T T_tb L_96 h_97 := hT
            replace hs : hx_S T_tb [(10, 8), (10, 11)] L_17 h_26 L_96 h_97 := hs
            replace f_x_14 := (hs.o (gx.S hM) trivial rfl).1.trans f_x_14
            replace f_11 := (hs.o (gx.S hM) trivial rfl).1.trans f_11
            replace af_qs : h_97.2.1 qs = sf := (funext fun j => (hs.a (gqs.S hM) rfl j).1).trans af_qs
            replace ex_91 := ex_91.trans (hs.a (gqt.S hM) rfl _).1.symm
            replace hM := hM.tr (hs.mono (by decide))
            have fw_101 : h_97.2.1 x 8 = w_101 := fw_101
            have bw_101 := hT.gi (gx.S hM) tt_10 (k := 8) rfl
            rw [fw_101] at bw_101
            have bw_101 : 0 ≤ w_101.toInt ∧ w_101.toInt ≤ 402 := bw_101
            have fw_102 : h_97.2.1 x 11 = w_102 := fw_102
            have bw_102 := hT.gi (gx.S hM) tt_10 (k := 11) rfl
            rw [fw_102] at bw_102
            have bw_102 : 0 ≤ w_102.toInt ∧ w_102.toInt ≤ 400 := bw_102
            have hwa9 := And.intro hr_100.1 (And.intro (show w_101.toInt ≤ tp0.toInt by rcases hr_100.2.1 with q | q <;> omega) hr_100.2.2.1)
            have hwb9 := hr_100.2.2.2
            clear hr_100
            refine lv_istore (lv' := [(5, .int r_98), (4, .int (0 : Int32)), (3, .int (0 : Int32)), (2, .int r_19), (0, .ref x), (1, .int i1)]) hx hb dX10_compare_196 hl (by decide) rfl (fun ls hl => ?_)
            refine lv_iload hx hb dX10_compare_198 (lv_at hl 0 rfl) ?_
            refine hx_goi (hx_runS (As := [.int r_98]) (rest := []) ⟨hx, hb, hml, hown, hts⟩ hW (t_X10_isFact l dC dI dA L_96 h_97 H.size r_98 hT) (va_cwS 1 hts (hx_gS kw_1499 kw_1497 kw_1498 kw_103) rfl rfl rfl (by decide +kernel) ⟨Nat.le_of_ble_eq_true rfl, Nat.le_of_ble_eq_true rfl⟩) rfl hl.1 rfl (Nat.le_of_ble_eq_true rfl) dX10_compare_200 ⟨Nat.le_of_ble_eq_true rfl, Nat.le_of_ble_eq_true rfl⟩) hW (fun r_105 L_103 h_104 H locs p_106 hW => ?_)
            obtain ⟨hr_107, hT, hs⟩ := p_106
            replace hT : hx_T T_tb L_103 h_104 := hT
            replace hs : hx_S T_tb [] L_96 h_97 L_103 h_104 := hs
            replace f_x_14 := (hs.o (gx.S hM) trivial rfl).1.trans f_x_14
            replace f_11 := (hs.o (gx.S hM) trivial rfl).1.trans f_11
            replace fw_101 := (hs.o (gx.S hM) trivial rfl).1.trans fw_101
            replace fw_102 := (hs.o (gx.S hM) trivial rfl).1.trans fw_102
            replace af_qs : h_104.2.1 qs = sf := (funext fun j => (hs.a (gqs.S hM) rfl j).1).trans af_qs
            replace ex_91 := ex_91.trans (hs.a (gqt.S hM) rfl _).1.symm
            replace hM := hM.tr (hs.mono (by decide))
            refine hb_if_eq (zx := r_105.toInt) (tgt := 241) hx hb rfl dX10_compare_203 (by decide) (fun c_108 => ?_) (fun c_108 => ?_)
            · skip
              replace hr_107 := hr_107.resolve_right (fun z9 => absurd (c_108.symm.trans z9.1) (by decide))
              replace hr_107 := hr_107.2
              clear hwb9 hr_107
              refine lv_aload_n hx hb dX10_compare_241 rfl (lv_at hl 4 rfl) ?_
              refine lv_iconst (v := 0) hx hb dX10_compare_242 (by decide) ?_
              refine lv_sipush (v := 9999) hx hb dX10_compare_243 (by decide) ?_
              have zc_9999 : (9999 : Int32).toInt = 9999 := by decide
              have zc_0 : (0 : Int32).toInt = 0 := by decide
              refine hx_goi (hx_runV (As := [.int (0 : Int32), .int (9999 : Int32)]) (rest := []) ⟨hx, hb, hml, hown, hts⟩ hW (gx.S hM) tt_10 (T := TX10) (N := 98) rfl (t_X10_number l dC dI dA L_103 h_104 H.size x (0 : Int32) (9999 : Int32) hT (gx.S hM) qt (gqt.S hM) ((hM.o gx trivial rfl).2.trans f_x_6) tf (hx_afS hM gqt rfl af_qt) w_101 fw_101 tp0 ((hM.o gx trivial rfl).1.trans f_x_7)) (cwV 2 hts (hx_gV kw_1503 kw_1500 kw_1502 kw_61 kw_103) rfl rfl rfl (by decide +kernel) ⟨Nat.le_of_ble_eq_true rfl, Nat.le_of_ble_eq_true rfl⟩) rfl hl.1 rfl (Nat.le_of_ble_eq_true rfl) dX10_compare_246 ⟨Nat.le_of_ble_eq_true rfl, Nat.le_of_ble_eq_true rfl⟩) hW (fun r_111 L_109 h_110 H locs p_112 hW => ?_)
              obtain ⟨⟨w_114, w_115, fw_114, fw_115, hr_113⟩, hT, hs⟩ := p_112
              replace hT : hx_T T_tb L_109 h_110 := hT
              replace hs : hx_S T_tb [(10, 8), (10, 9), (10, 10)] L_103 h_104 L_109 h_110 := hs
              replace f_x_14 := (hs.o (gx.S hM) trivial rfl).1.trans f_x_14
              replace f_11 := (hs.o (gx.S hM) trivial rfl).1.trans f_11
              replace fw_102 := (hs.o (gx.S hM) trivial rfl).1.trans fw_102
              replace af_qs : h_110.2.1 qs = sf := (funext fun j => (hs.a (gqs.S hM) rfl j).1).trans af_qs
              replace ex_91 := ex_91.trans (hs.a (gqt.S hM) rfl _).1.symm
              replace hM := hM.tr (hs.mono (by decide))
              have fw_114 : h_110.2.1 x 8 = w_114 := fw_114
              have bw_114 := hT.gi (gx.S hM) tt_10 (k := 8) rfl
              rw [fw_114] at bw_114
              have bw_114 : 0 ≤ w_114.toInt ∧ w_114.toInt ≤ 402 := bw_114
              have fw_115 : h_110.2.1 x 10 = w_115 := fw_115
              have bw_115 := hT.gi (gx.S hM) tt_10 (k := 10) rfl
              rw [fw_115] at bw_115
              have bw_115 : 0 ≤ w_115.toInt ∧ w_115.toInt ≤ 9999 := bw_115
              refine hb_if_ne (zx := r_111.toInt) (tgt := 254) hx hb rfl dX10_compare_249 (by decide) (fun c_116 => ?_) (fun c_116 => ?_)
              · skip
                have hnu9 := hr_113.2.2.2 (by rcases hr_113.1 with q | q <;> omega); clear hr_113
                have hroom := hx_QQ_room hQ (n1 := w_114.toInt) (by omega) (by omega)
                refine lv_aload_n hx hb dX10_compare_254 rfl (lv_at hl 4 rfl) ?_
                refine lv_iload_n hx hb dX10_compare_255 rfl (lv_at hl 5 rfl) ?_
                refine lv_iconst (v := 3) hx hb dX10_compare_256 (by decide) ?_
                refine lv_isub hx hb dX10_compare_257 ?_
                have rg_117 := i32_r i1
                refine lv_topi (fun x_118 ex_118 => ?_)
                have zx_118 : x_118.toInt = i1.toInt - 3 := by rw [ex_118]; exact i32_sub rfl (by decide) (by omega) (by omega)
                refine lv_iload hx hb dX10_compare_258 (lv_at hl 1 rfl) ?_
                refine lv_aload_n hx hb dX10_compare_260 rfl (lv_at hl 4 rfl) ?_
                refine hk_geti hx hb hts hC_10 hown hW (gx.S hM) tt_10 10 (by decide) rfl kw_1153 ⟨rfl, rfl, rfl⟩ fw_115 dX10_compare_261 ?_
                refine hx_goi (hx_runS (As := [.int x_118, .int (0 : Int32), .int w_115]) (rest := [.ref x]) ⟨hx, hb, hml, hown, hts⟩ hW (t_X10_compareOf l dC dI dA L_109 h_110 H.size x_118 (0 : Int32) w_115 hT ⟨by omega, by omega⟩ (by decide) ⟨by omega, by omega⟩) (va_cwS 3 hts (hx_gS kw_1132 kw_1130 kw_1131 kw_103) rfl rfl rfl (by decide +kernel) ⟨Nat.le_of_ble_eq_true rfl, Nat.le_of_ble_eq_true rfl⟩) rfl hl.1 rfl (Nat.le_of_ble_eq_true rfl) dX10_compare_264 ⟨Nat.le_of_ble_eq_true rfl, Nat.le_of_ble_eq_true rfl⟩) hW (fun r_121 L_119 h_120 H locs p_122 hW => ?_)
                obtain ⟨hr_123, hT, hs⟩ := p_122
                replace hT : hx_T T_tb L_119 h_120 := hT
                replace hs : hx_S T_tb [] L_109 h_110 L_119 h_120 := hs
                replace f_x_14 := (hs.o (gx.S hM) trivial rfl).1.trans f_x_14
                replace f_11 := (hs.o (gx.S hM) trivial rfl).1.trans f_11
                replace fw_102 := (hs.o (gx.S hM) trivial rfl).1.trans fw_102
                replace fw_114 := (hs.o (gx.S hM) trivial rfl).1.trans fw_114
                replace fw_115 := (hs.o (gx.S hM) trivial rfl).1.trans fw_115
                replace af_qs : h_120.2.1 qs = sf := (funext fun j => (hs.a (gqs.S hM) rfl j).1).trans af_qs
                replace ex_91 := ex_91.trans (hs.a (gqt.S hM) rfl _).1.symm
                replace hM := hM.tr (hs.mono (by decide))
                refine hx_gov (hx_runV (As := [.int r_121]) (rest := []) ⟨hx, hb, hml, hown, hts⟩ hW (gx.S hM) tt_10 (T := TX10) (N := 98) rfl (t_X10_writes l dC dI dA L_119 h_120 H.size x r_121 hT (gx.S hM) qs (gqs.S hM) ((hM.o gx trivial rfl).2.trans f_x_15) sf af_qs st0 f_x_14 (by omega)) (cwV 1 hts (hx_gV kw_1138 kw_1135 kw_1137 kw_50 kw_103) rfl rfl rfl (by decide +kernel) ⟨Nat.le_of_ble_eq_true rfl, Nat.le_of_ble_eq_true rfl⟩) rfl hl.1 rfl (Nat.le_of_ble_eq_true rfl) dX10_compare_267 ⟨Nat.le_of_ble_eq_true rfl, Nat.le_of_ble_eq_true rfl⟩) hW (fun L_124 h_125 H locs p_127 hW => ?_)
                obtain ⟨⟨w_129, w_130, fw_129, fw_130, hr_128⟩, hT, hs⟩ := p_127
                replace hT : hx_T T_tb L_124 h_125 := hT
                replace hs : hx_S T_tb [(10, 14), (55, 0)] L_119 h_120 L_124 h_125 := hs
                replace f_11 := (hs.o (gx.S hM) trivial rfl).1.trans f_11
                replace fw_102 := (hs.o (gx.S hM) trivial rfl).1.trans fw_102
                replace fw_114 := (hs.o (gx.S hM) trivial rfl).1.trans fw_114
                replace fw_115 := (hs.o (gx.S hM) trivial rfl).1.trans fw_115
                replace ex_91 := ex_91.trans (hs.a (gqt.S hM) rfl _).1.symm
                replace hM := hM.tr (hs.mono (by decide))
                have fw_129 : h_125.2.1 x 14 = w_129 := fw_129
                have bw_129 := hT.gi (gx.S hM) tt_10 (k := 14) rfl
                rw [fw_129] at bw_129
                have bw_129 : 0 ≤ w_129.toInt ∧ w_129.toInt ≤ 128 := bw_129
                have fw_130 : h_125.2.1 qs = w_130 := fw_130
                refine lv_iconst (v := 1) hx hb dX10_compare_270 (by decide) ?_
                exact hx_retz hx hb hr rfl hlk hW ⟨⟨x_9, w_114, w_129, w_130, f_11, fw_114, fw_129, fw_130, ⟨by decide, by omega, fun _ => hx_QQ_cmp hQ (by omega) (by omega) (by omega) hr_123 (hx_cl (by omega)) (by omega) hr_128.1 hr_128.2⟩⟩, hT, hM⟩ dX10_compare_271
              · skip
                have hnu9 := hr_113.2.1; clear hr_113
                refine lv_iconst (v := 0) hx hb dX10_compare_252 (by decide) ?_
                exact hx_retz hx hb hr rfl hlk hW ⟨⟨x_9, w_114, st0, sf, f_11, fw_114, f_x_14, af_qs, ⟨by decide, by omega, fun z => absurd z (by decide)⟩⟩, hT, hM⟩ dX10_compare_253
            · skip
              replace hr_107 := hr_107.resolve_left (fun z9 => c_108 z9.1)
              replace c_108 := hr_107.1
              replace hr_107 := hr_107.2
              have hwc9 : 3 ≤ r_98.toInt ∧ r_98.toInt ≤ 10 := by clear hwb9; omega
              clear hr_107
              have hwd9 : w_101.toInt + w_102.toInt ≤ tp0.toInt ∧ 3 ≤ w_102.toInt := by rcases hwb9 with q | ⟨_, _, q1, _, _, _, _, q2, _⟩; (exfalso; omega); exact ⟨q1, q2 hwc9⟩
              clear hwb9
              refine lv_aload_n hx hb dX10_compare_206 rfl (lv_at hl 4 rfl) ?_
              refine lv_dup hx hb dX10_compare_207 rfl ?_
              refine hk_geti hx hb hts hC_10 hown hW (gx.S hM) tt_10 8 (by decide) rfl kw_1151 ⟨rfl, rfl, rfl⟩ fw_101 dX10_compare_208 ?_
              refine lv_aload_n hx hb dX10_compare_211 rfl (lv_at hl 4 rfl) ?_
              refine hk_geti hx hb hts hC_10 hown hW (gx.S hM) tt_10 11 (by decide) rfl kw_1154 ⟨rfl, rfl, rfl⟩ fw_102 dX10_compare_212 ?_
              refine lv_iadd hx hb dX10_compare_215 ?_
              have rg_131 := i32_r w_101
              have rg_132 := i32_r w_102
              refine lv_topi (fun x_133 ex_133 => ?_)
              have zx_133 : x_133.toInt = w_101.toInt + w_102.toInt := by rw [ex_133]; exact i32_add rfl rfl (by omega) (by omega)
              refine hx_puti hx hb hts hC_10 hown hW hT (hx_S.rf (M := [(10, 8)])) (gx.S hM) tt_10 8 (by decide) rfl kw_1151 ⟨rfl, rfl, rfl⟩ rfl (x := x_133) ⟨by omega, by omega⟩ rfl rfl rfl (List.mem_singleton.mpr rfl) dX10_compare_216 (fun H locs h_134 eh_134 hW hT hs => ?_)
              replace f_x_14 := (hs.o (gx.S hM) trivial rfl).1.trans f_x_14
              replace f_11 := (hs.o (gx.S hM) trivial rfl).1.trans f_11
              replace fw_102 := (hs.o (gx.S hM) trivial rfl).1.trans fw_102
              replace af_qs : h_134.2.1 qs = sf := (funext fun j => (hs.a (gqs.S hM) rfl j).1).trans af_qs
              replace ex_91 := ex_91.trans (hs.a (gqt.S hM) rfl _).1.symm
              replace hM := hM.tr (hs.mono (by decide))
              have f_135 : h_134.2.1 x 8 = x_133 := by rw [eh_134]; exact hx_pi_at _ _ _ _
              have hroom := hx_QQ_room hQ (n1 := x_133.toInt) (by omega) (by omega)
              refine lv_aload_n hx hb dX10_compare_219 rfl (lv_at hl 4 rfl) ?_
              refine lv_iload_n hx hb dX10_compare_220 rfl (lv_at hl 5 rfl) ?_
              refine lv_iconst (v := 3) hx hb dX10_compare_221 (by decide) ?_
              refine lv_isub hx hb dX10_compare_222 ?_
              have rg_136 := i32_r i1
              refine lv_topi (fun x_137 ex_137 => ?_)
              have zx_137 : x_137.toInt = i1.toInt - 3 := by rw [ex_137]; exact i32_sub rfl (by decide) (by omega) (by omega)
              refine lv_iload hx hb dX10_compare_223 (lv_at hl 1 rfl) ?_
              refine lv_sipush (v := 10000) hx hb dX10_compare_225 (by decide) ?_
              refine lv_iload hx hb dX10_compare_228 (lv_at hl 0 rfl) ?_
              refine lv_iadd hx hb dX10_compare_230 ?_
              have rg_138 := i32_r r_98
              refine lv_topi (fun x_139 ex_139 => ?_)
              have zx_139 : x_139.toInt = 10000 + r_98.toInt := by rw [ex_139]; exact i32_add (by decide) rfl (by omega) (by omega)
              refine lv_iconst (v := 3) hx hb dX10_compare_231 (by decide) ?_
              refine lv_isub hx hb dX10_compare_232 ?_
              have rg_140 := i32_r x_139
              refine lv_topi (fun x_141 ex_141 => ?_)
              have zx_141 : x_141.toInt = x_139.toInt - 3 := by rw [ex_141]; exact i32_sub rfl (by decide) (by omega) (by omega)
              have zc_0 : (0 : Int32).toInt = 0 := by decide
              refine hx_goi (hx_runS (As := [.int x_137, .int (0 : Int32), .int x_141]) (rest := [.ref x]) ⟨hx, hb, hml, hown, hts⟩ hW (t_X10_compareOf l dC dI dA L_103 h_134 H.size x_137 (0 : Int32) x_141 hT ⟨by omega, by omega⟩ (by decide) ⟨by omega, by omega⟩) (va_cwS 3 hts (hx_gS kw_1132 kw_1130 kw_1131 kw_103) rfl rfl rfl (by decide +kernel) ⟨Nat.le_of_ble_eq_true rfl, Nat.le_of_ble_eq_true rfl⟩) rfl hl.1 rfl (Nat.le_of_ble_eq_true rfl) dX10_compare_233 ⟨Nat.le_of_ble_eq_true rfl, Nat.le_of_ble_eq_true rfl⟩) hW (fun r_144 L_142 h_143 H locs p_145 hW => ?_)
              obtain ⟨hr_146, hT, hs⟩ := p_145
              replace hT : hx_T T_tb L_142 h_143 := hT
              replace hs : hx_S T_tb [] L_103 h_134 L_142 h_143 := hs
              replace f_x_14 := (hs.o (gx.S hM) trivial rfl).1.trans f_x_14
              replace f_11 := (hs.o (gx.S hM) trivial rfl).1.trans f_11
              replace fw_102 := (hs.o (gx.S hM) trivial rfl).1.trans fw_102
              replace f_135 := (hs.o (gx.S hM) trivial rfl).1.trans f_135
              replace af_qs : h_143.2.1 qs = sf := (funext fun j => (hs.a (gqs.S hM) rfl j).1).trans af_qs
              replace ex_91 := ex_91.trans (hs.a (gqt.S hM) rfl _).1.symm
              replace hM := hM.tr (hs.mono (by decide))
              refine hx_gov (hx_runV (As := [.int r_144]) (rest := []) ⟨hx, hb, hml, hown, hts⟩ hW (gx.S hM) tt_10 (T := TX10) (N := 98) rfl (t_X10_writes l dC dI dA L_142 h_143 H.size x r_144 hT (gx.S hM) qs (gqs.S hM) ((hM.o gx trivial rfl).2.trans f_x_15) sf af_qs st0 f_x_14 (by omega)) (cwV 1 hts (hx_gV kw_1138 kw_1135 kw_1137 kw_50 kw_103) rfl rfl rfl (by decide +kernel) ⟨Nat.le_of_ble_eq_true rfl, Nat.le_of_ble_eq_true rfl⟩) rfl hl.1 rfl (Nat.le_of_ble_eq_true rfl) dX10_compare_236 ⟨Nat.le_of_ble_eq_true rfl, Nat.le_of_ble_eq_true rfl⟩) hW (fun L_147 h_148 H locs p_150 hW => ?_)
              obtain ⟨⟨w_152, w_153, fw_152, fw_153, hr_151⟩, hT, hs⟩ := p_150
              replace hT : hx_T T_tb L_147 h_148 := hT
              replace hs : hx_S T_tb [(10, 14), (55, 0)] L_142 h_143 L_147 h_148 := hs
              replace f_11 := (hs.o (gx.S hM) trivial rfl).1.trans f_11
              replace fw_102 := (hs.o (gx.S hM) trivial rfl).1.trans fw_102
              replace f_135 := (hs.o (gx.S hM) trivial rfl).1.trans f_135
              replace ex_91 := ex_91.trans (hs.a (gqt.S hM) rfl _).1.symm
              replace hM := hM.tr (hs.mono (by decide))
              have fw_152 : h_148.2.1 x 14 = w_152 := fw_152
              have bw_152 := hT.gi (gx.S hM) tt_10 (k := 14) rfl
              rw [fw_152] at bw_152
              have bw_152 : 0 ≤ w_152.toInt ∧ w_152.toInt ≤ 128 := bw_152
              have fw_153 : h_148.2.1 qs = w_153 := fw_153
              refine lv_iconst (v := 1) hx hb dX10_compare_239 (by decide) ?_
              exact hx_retz hx hb hr rfl hlk hW ⟨⟨x_9, x_133, w_152, w_153, f_11, f_135, fw_152, fw_153, ⟨by decide, by omega, fun _ => hx_QQ_cmp hQ (by omega) (by omega) (by omega) hr_146 (hx_cl (by omega)) (by omega) hr_151.1 hr_151.2⟩⟩, hT, hM⟩ dX10_compare_240
          · skip
            refine lv_iconst (v := 1) hx hb dX10_compare_133 (by decide) ?_
            refine lv_goto (tgt := 138) hx hb dX10_compare_134 (by decide) ?_
            refine lv_istore_n (lv' := [(3, .int (1 : Int32)), (2, .int r_19), (0, .ref x), (1, .int i1)]) hx hb dX10_compare_138 rfl hl (by decide) rfl (fun ls hl => ?_)
            refine lv_iload_n hx hb dX10_compare_139 rfl (lv_at hl 0 rfl) ?_
            refine hb_if_eq (zx := 1) (tgt := 153) hx hb (by decide) dX10_compare_140 (by decide) (fun c_154 => absurd c_154 (by decide)) (fun c_154 => ?_)
            refine lv_aload_n hx hb dX10_compare_143 rfl (lv_at hl 2 rfl) ?_
            refine lv_dup hx hb dX10_compare_144 rfl ?_
            refine hk_geti hx hb hts hC_10 hown hW (gx.S hM) tt_10 8 (by decide) rfl kw_1151 ⟨rfl, rfl, rfl⟩ f_27 dX10_compare_145 ?_
            refine lv_iconst (v := 1) hx hb dX10_compare_148 (by decide) ?_
            refine lv_iadd hx hb dX10_compare_149 ?_
            have rg_155 := i32_r x_25
            refine lv_topi (fun x_156 ex_156 => ?_)
            have zx_156 : x_156.toInt = x_25.toInt + 1 := by rw [ex_156]; exact i32_add rfl (by decide) (by omega) (by omega)
            refine hx_puti hx hb hts hC_10 hown hW hT (hx_S.rf (M := [(10, 8)])) (gx.S hM) tt_10 8 (by decide) rfl kw_1151 ⟨rfl, rfl, rfl⟩ rfl (x := x_156) ⟨by omega, by omega⟩ rfl rfl rfl (List.mem_singleton.mpr rfl) dX10_compare_150 (fun H locs h_157 eh_157 hW hT hs => ?_)
            replace f_x_14 := (hs.o (gx.S hM) trivial rfl).1.trans f_x_14
            replace f_x_11 := (hs.o (gx.S hM) trivial rfl).1.trans f_x_11
            replace f_11 := (hs.o (gx.S hM) trivial rfl).1.trans f_11
            replace af_qs : h_157.2.1 qs = sf := (funext fun j => (hs.a (gqs.S hM) rfl j).1).trans af_qs
            replace ex_91 := ex_91.trans (hs.a (gqt.S hM) rfl _).1.symm
            replace hM := hM.tr (hs.mono (by decide))
            have f_158 : h_157.2.1 x 8 = x_156 := by rw [eh_157]; exact hx_pi_at _ _ _ _
            refine lv_iload_n hx hb dX10_compare_153 rfl (lv_at hl 1 rfl) ?_
            refine lv_bipush (v := 60) hx hb dX10_compare_154 (by decide) ?_
            refine hb_icmp_ne (zx := r_19.toInt) (zy := 60) (tgt := 171) hx hb rfl (by decide) dX10_compare_156 (by decide) (fun c_159 => by exfalso; omega) (fun c_159 => ?_)
            refine lv_iload_n hx hb dX10_compare_159 rfl (lv_at hl 0 rfl) ?_
            refine hb_if_eq (zx := 1) (tgt := 167) hx hb (by decide) dX10_compare_160 (by decide) (fun c_160 => absurd c_160 (by decide)) (fun c_160 => ?_)
            refine lv_iconst (v := 1) hx hb dX10_compare_163 (by decide) ?_
            refine lv_goto (tgt := 190) hx hb dX10_compare_164 (by decide) ?_
            refine lv_istore (lv' := [(4, .int (1 : Int32)), (3, .int (1 : Int32)), (2, .int r_19), (0, .ref x), (1, .int i1)]) hx hb dX10_compare_190 hl (by decide) rfl (fun ls hl => ?_)
            refine lv_aload_n hx hb dX10_compare_192 rfl (lv_at hl 3 rfl) ?_
            refine hx_goi (hx_runV (As := []) (rest := []) ⟨hx, hb, hml, hown, hts⟩ hW (gx.S hM) tt_10 (T := TX10) (N := 98) rfl (t_X10_wordHere l dC dI dA L_17 h_157 H.size x hT (gx.S hM) qt (gqt.S hM) ((hM.o gx trivial rfl).2.trans f_x_6) qw (gqw.S hM) ((hM.o gx trivial rfl).2.trans f_x_19) tf (hx_afS hM gqt rfl af_qt) wf (hx_afS hM gqw rfl af_qw) x_156 f_158 tp0 ((hM.o gx trivial rfl).1.trans f_x_7) hwd) (cwV 0 hts (hx_gV kw_1476 kw_1473 kw_1475 kw_55 kw_103) rfl rfl rfl (by decide +kernel) ⟨Nat.le_of_ble_eq_true rfl, Nat.le_of_ble_eq_true rfl⟩) rfl hl.1 rfl (Nat.le_of_ble_eq_true rfl) dX10_compare_193 ⟨Nat.le_of_ble_eq_true rfl, Nat.le_of_ble_eq_true rfl⟩) hW (fun r_163 L_161 h_162 H locs p_164 hW => ?_)
            obtain ⟨⟨w_166, w_167, fw_166, fw_167, hr_165⟩, hT, hs⟩ := p_164
            replace hT : hx_T T_tb L_161 h_162 := hT
            replace hs : hx_S T_tb [(10, 8), (10, 11)] L_17 h_157 L_161 h_162 := hs
            replace f_x_14 := (hs.o (gx.S hM) trivial rfl).1.trans f_x_14
            replace f_11 := (hs.o (gx.S hM) trivial rfl).1.trans f_11
            replace af_qs : h_162.2.1 qs = sf := (funext fun j => (hs.a (gqs.S hM) rfl j).1).trans af_qs
            replace ex_91 := ex_91.trans (hs.a (gqt.S hM) rfl _).1.symm
            replace hM := hM.tr (hs.mono (by decide))
            have fw_166 : h_162.2.1 x 8 = w_166 := fw_166
            have bw_166 := hT.gi (gx.S hM) tt_10 (k := 8) rfl
            rw [fw_166] at bw_166
            have bw_166 : 0 ≤ w_166.toInt ∧ w_166.toInt ≤ 402 := bw_166
            have fw_167 : h_162.2.1 x 11 = w_167 := fw_167
            have bw_167 := hT.gi (gx.S hM) tt_10 (k := 11) rfl
            rw [fw_167] at bw_167
            have bw_167 : 0 ≤ w_167.toInt ∧ w_167.toInt ≤ 400 := bw_167
            have hwa9 := And.intro hr_165.1 (And.intro (show w_166.toInt ≤ tp0.toInt by rcases hr_165.2.1 with q | q <;> omega) hr_165.2.2.1)
            have hwb9 := hr_165.2.2.2
            clear hr_165
            refine lv_istore (lv' := [(5, .int r_163), (4, .int (1 : Int32)), (3, .int (1 : Int32)), (2, .int r_19), (0, .ref x), (1, .int i1)]) hx hb dX10_compare_196 hl (by decide) rfl (fun ls hl => ?_)
            refine lv_iload hx hb dX10_compare_198 (lv_at hl 0 rfl) ?_
            refine hx_goi (hx_runS (As := [.int r_163]) (rest := []) ⟨hx, hb, hml, hown, hts⟩ hW (t_X10_isFact l dC dI dA L_161 h_162 H.size r_163 hT) (va_cwS 1 hts (hx_gS kw_1499 kw_1497 kw_1498 kw_103) rfl rfl rfl (by decide +kernel) ⟨Nat.le_of_ble_eq_true rfl, Nat.le_of_ble_eq_true rfl⟩) rfl hl.1 rfl (Nat.le_of_ble_eq_true rfl) dX10_compare_200 ⟨Nat.le_of_ble_eq_true rfl, Nat.le_of_ble_eq_true rfl⟩) hW (fun r_170 L_168 h_169 H locs p_171 hW => ?_)
            obtain ⟨hr_172, hT, hs⟩ := p_171
            replace hT : hx_T T_tb L_168 h_169 := hT
            replace hs : hx_S T_tb [] L_161 h_162 L_168 h_169 := hs
            replace f_x_14 := (hs.o (gx.S hM) trivial rfl).1.trans f_x_14
            replace f_11 := (hs.o (gx.S hM) trivial rfl).1.trans f_11
            replace fw_166 := (hs.o (gx.S hM) trivial rfl).1.trans fw_166
            replace fw_167 := (hs.o (gx.S hM) trivial rfl).1.trans fw_167
            replace af_qs : h_169.2.1 qs = sf := (funext fun j => (hs.a (gqs.S hM) rfl j).1).trans af_qs
            replace ex_91 := ex_91.trans (hs.a (gqt.S hM) rfl _).1.symm
            replace hM := hM.tr (hs.mono (by decide))
            refine hb_if_eq (zx := r_170.toInt) (tgt := 241) hx hb rfl dX10_compare_203 (by decide) (fun c_173 => ?_) (fun c_173 => ?_)
            · skip
              replace hr_172 := hr_172.resolve_right (fun z9 => absurd (c_173.symm.trans z9.1) (by decide))
              replace hr_172 := hr_172.2
              clear hwb9 hr_172
              refine lv_aload_n hx hb dX10_compare_241 rfl (lv_at hl 4 rfl) ?_
              refine lv_iconst (v := 0) hx hb dX10_compare_242 (by decide) ?_
              refine lv_sipush (v := 9999) hx hb dX10_compare_243 (by decide) ?_
              have zc_9999 : (9999 : Int32).toInt = 9999 := by decide
              have zc_0 : (0 : Int32).toInt = 0 := by decide
              refine hx_goi (hx_runV (As := [.int (0 : Int32), .int (9999 : Int32)]) (rest := []) ⟨hx, hb, hml, hown, hts⟩ hW (gx.S hM) tt_10 (T := TX10) (N := 98) rfl (t_X10_number l dC dI dA L_168 h_169 H.size x (0 : Int32) (9999 : Int32) hT (gx.S hM) qt (gqt.S hM) ((hM.o gx trivial rfl).2.trans f_x_6) tf (hx_afS hM gqt rfl af_qt) w_166 fw_166 tp0 ((hM.o gx trivial rfl).1.trans f_x_7)) (cwV 2 hts (hx_gV kw_1503 kw_1500 kw_1502 kw_61 kw_103) rfl rfl rfl (by decide +kernel) ⟨Nat.le_of_ble_eq_true rfl, Nat.le_of_ble_eq_true rfl⟩) rfl hl.1 rfl (Nat.le_of_ble_eq_true rfl) dX10_compare_246 ⟨Nat.le_of_ble_eq_true rfl, Nat.le_of_ble_eq_true rfl⟩) hW (fun r_176 L_174 h_175 H locs p_177 hW => ?_)
              obtain ⟨⟨w_179, w_180, fw_179, fw_180, hr_178⟩, hT, hs⟩ := p_177
              replace hT : hx_T T_tb L_174 h_175 := hT
              replace hs : hx_S T_tb [(10, 8), (10, 9), (10, 10)] L_168 h_169 L_174 h_175 := hs
              replace f_x_14 := (hs.o (gx.S hM) trivial rfl).1.trans f_x_14
              replace f_11 := (hs.o (gx.S hM) trivial rfl).1.trans f_11
              replace fw_167 := (hs.o (gx.S hM) trivial rfl).1.trans fw_167
              replace af_qs : h_175.2.1 qs = sf := (funext fun j => (hs.a (gqs.S hM) rfl j).1).trans af_qs
              replace ex_91 := ex_91.trans (hs.a (gqt.S hM) rfl _).1.symm
              replace hM := hM.tr (hs.mono (by decide))
              have fw_179 : h_175.2.1 x 8 = w_179 := fw_179
              have bw_179 := hT.gi (gx.S hM) tt_10 (k := 8) rfl
              rw [fw_179] at bw_179
              have bw_179 : 0 ≤ w_179.toInt ∧ w_179.toInt ≤ 402 := bw_179
              have fw_180 : h_175.2.1 x 10 = w_180 := fw_180
              have bw_180 := hT.gi (gx.S hM) tt_10 (k := 10) rfl
              rw [fw_180] at bw_180
              have bw_180 : 0 ≤ w_180.toInt ∧ w_180.toInt ≤ 9999 := bw_180
              refine hb_if_ne (zx := r_176.toInt) (tgt := 254) hx hb rfl dX10_compare_249 (by decide) (fun c_181 => ?_) (fun c_181 => ?_)
              · skip
                have hnu9 := hr_178.2.2.2 (by rcases hr_178.1 with q | q <;> omega); clear hr_178
                have hroom := hx_QQ_room hQ (n1 := w_179.toInt) (by omega) (by omega)
                refine lv_aload_n hx hb dX10_compare_254 rfl (lv_at hl 4 rfl) ?_
                refine lv_iload_n hx hb dX10_compare_255 rfl (lv_at hl 5 rfl) ?_
                refine lv_iconst (v := 3) hx hb dX10_compare_256 (by decide) ?_
                refine lv_isub hx hb dX10_compare_257 ?_
                have rg_182 := i32_r i1
                refine lv_topi (fun x_183 ex_183 => ?_)
                have zx_183 : x_183.toInt = i1.toInt - 3 := by rw [ex_183]; exact i32_sub rfl (by decide) (by omega) (by omega)
                refine lv_iload hx hb dX10_compare_258 (lv_at hl 1 rfl) ?_
                refine lv_aload_n hx hb dX10_compare_260 rfl (lv_at hl 4 rfl) ?_
                refine hk_geti hx hb hts hC_10 hown hW (gx.S hM) tt_10 10 (by decide) rfl kw_1153 ⟨rfl, rfl, rfl⟩ fw_180 dX10_compare_261 ?_
                have zc_1 : (1 : Int32).toInt = 1 := by decide
                refine hx_goi (hx_runS (As := [.int x_183, .int (1 : Int32), .int w_180]) (rest := [.ref x]) ⟨hx, hb, hml, hown, hts⟩ hW (t_X10_compareOf l dC dI dA L_174 h_175 H.size x_183 (1 : Int32) w_180 hT ⟨by omega, by omega⟩ (by decide) ⟨by omega, by omega⟩) (va_cwS 3 hts (hx_gS kw_1132 kw_1130 kw_1131 kw_103) rfl rfl rfl (by decide +kernel) ⟨Nat.le_of_ble_eq_true rfl, Nat.le_of_ble_eq_true rfl⟩) rfl hl.1 rfl (Nat.le_of_ble_eq_true rfl) dX10_compare_264 ⟨Nat.le_of_ble_eq_true rfl, Nat.le_of_ble_eq_true rfl⟩) hW (fun r_186 L_184 h_185 H locs p_187 hW => ?_)
                obtain ⟨hr_188, hT, hs⟩ := p_187
                replace hT : hx_T T_tb L_184 h_185 := hT
                replace hs : hx_S T_tb [] L_174 h_175 L_184 h_185 := hs
                replace f_x_14 := (hs.o (gx.S hM) trivial rfl).1.trans f_x_14
                replace f_11 := (hs.o (gx.S hM) trivial rfl).1.trans f_11
                replace fw_167 := (hs.o (gx.S hM) trivial rfl).1.trans fw_167
                replace fw_179 := (hs.o (gx.S hM) trivial rfl).1.trans fw_179
                replace fw_180 := (hs.o (gx.S hM) trivial rfl).1.trans fw_180
                replace af_qs : h_185.2.1 qs = sf := (funext fun j => (hs.a (gqs.S hM) rfl j).1).trans af_qs
                replace ex_91 := ex_91.trans (hs.a (gqt.S hM) rfl _).1.symm
                replace hM := hM.tr (hs.mono (by decide))
                refine hx_gov (hx_runV (As := [.int r_186]) (rest := []) ⟨hx, hb, hml, hown, hts⟩ hW (gx.S hM) tt_10 (T := TX10) (N := 98) rfl (t_X10_writes l dC dI dA L_184 h_185 H.size x r_186 hT (gx.S hM) qs (gqs.S hM) ((hM.o gx trivial rfl).2.trans f_x_15) sf af_qs st0 f_x_14 (by omega)) (cwV 1 hts (hx_gV kw_1138 kw_1135 kw_1137 kw_50 kw_103) rfl rfl rfl (by decide +kernel) ⟨Nat.le_of_ble_eq_true rfl, Nat.le_of_ble_eq_true rfl⟩) rfl hl.1 rfl (Nat.le_of_ble_eq_true rfl) dX10_compare_267 ⟨Nat.le_of_ble_eq_true rfl, Nat.le_of_ble_eq_true rfl⟩) hW (fun L_189 h_190 H locs p_192 hW => ?_)
                obtain ⟨⟨w_194, w_195, fw_194, fw_195, hr_193⟩, hT, hs⟩ := p_192
                replace hT : hx_T T_tb L_189 h_190 := hT
                replace hs : hx_S T_tb [(10, 14), (55, 0)] L_184 h_185 L_189 h_190 := hs
                replace f_11 := (hs.o (gx.S hM) trivial rfl).1.trans f_11
                replace fw_167 := (hs.o (gx.S hM) trivial rfl).1.trans fw_167
                replace fw_179 := (hs.o (gx.S hM) trivial rfl).1.trans fw_179
                replace fw_180 := (hs.o (gx.S hM) trivial rfl).1.trans fw_180
                replace ex_91 := ex_91.trans (hs.a (gqt.S hM) rfl _).1.symm
                replace hM := hM.tr (hs.mono (by decide))
                have fw_194 : h_190.2.1 x 14 = w_194 := fw_194
                have bw_194 := hT.gi (gx.S hM) tt_10 (k := 14) rfl
                rw [fw_194] at bw_194
                have bw_194 : 0 ≤ w_194.toInt ∧ w_194.toInt ≤ 128 := bw_194
                have fw_195 : h_190.2.1 qs = w_195 := fw_195
                refine lv_iconst (v := 1) hx hb dX10_compare_270 (by decide) ?_
                exact hx_retz hx hb hr rfl hlk hW ⟨⟨x_9, w_179, w_194, w_195, f_11, fw_179, fw_194, fw_195, ⟨by decide, by omega, fun _ => hx_QQ_cmp hQ (by omega) (by omega) (by omega) hr_188 (hx_cl (by omega)) (by omega) hr_193.1 hr_193.2⟩⟩, hT, hM⟩ dX10_compare_271
              · skip
                have hnu9 := hr_178.2.1; clear hr_178
                refine lv_iconst (v := 0) hx hb dX10_compare_252 (by decide) ?_
                exact hx_retz hx hb hr rfl hlk hW ⟨⟨x_9, w_179, st0, sf, f_11, fw_179, f_x_14, af_qs, ⟨by decide, by omega, fun z => absurd z (by decide)⟩⟩, hT, hM⟩ dX10_compare_253
            · skip
              replace hr_172 := hr_172.resolve_left (fun z9 => c_173 z9.1)
              replace c_173 := hr_172.1
              replace hr_172 := hr_172.2
              have hwc9 : 3 ≤ r_163.toInt ∧ r_163.toInt ≤ 10 := by clear hwb9; omega
              clear hr_172
              have hwd9 : w_166.toInt + w_167.toInt ≤ tp0.toInt ∧ 3 ≤ w_167.toInt := by rcases hwb9 with q | ⟨_, _, q1, _, _, _, _, q2, _⟩; (exfalso; omega); exact ⟨q1, q2 hwc9⟩
              clear hwb9
              refine lv_aload_n hx hb dX10_compare_206 rfl (lv_at hl 4 rfl) ?_
              refine lv_dup hx hb dX10_compare_207 rfl ?_
              refine hk_geti hx hb hts hC_10 hown hW (gx.S hM) tt_10 8 (by decide) rfl kw_1151 ⟨rfl, rfl, rfl⟩ fw_166 dX10_compare_208 ?_
              refine lv_aload_n hx hb dX10_compare_211 rfl (lv_at hl 4 rfl) ?_
              refine hk_geti hx hb hts hC_10 hown hW (gx.S hM) tt_10 11 (by decide) rfl kw_1154 ⟨rfl, rfl, rfl⟩ fw_167 dX10_compare_212 ?_
              refine lv_iadd hx hb dX10_compare_215 ?_
              have rg_196 := i32_r w_166
              have rg_197 := i32_r w_167
              refine lv_topi (fun x_198 ex_198 => ?_)
              have zx_198 : x_198.toInt = w_166.toInt + w_167.toInt := by rw [ex_198]; exact i32_add rfl rfl (by omega) (by omega)
              refine hx_puti hx hb hts hC_10 hown hW hT (hx_S.rf (M := [(10, 8)])) (gx.S hM) tt_10 8 (by decide) rfl kw_1151 ⟨rfl, rfl, rfl⟩ rfl (x := x_198) ⟨by omega, by omega⟩ rfl rfl rfl (List.mem_singleton.mpr rfl) dX10_compare_216 (fun H locs h_199 eh_199 hW hT hs => ?_)
              replace f_x_14 := (hs.o (gx.S hM) trivial rfl).1.trans f_x_14
              replace f_11 := (hs.o (gx.S hM) trivial rfl).1.trans f_11
              replace fw_167 := (hs.o (gx.S hM) trivial rfl).1.trans fw_167
              replace af_qs : h_199.2.1 qs = sf := (funext fun j => (hs.a (gqs.S hM) rfl j).1).trans af_qs
              replace ex_91 := ex_91.trans (hs.a (gqt.S hM) rfl _).1.symm
              replace hM := hM.tr (hs.mono (by decide))
              have f_200 : h_199.2.1 x 8 = x_198 := by rw [eh_199]; exact hx_pi_at _ _ _ _
              have hroom := hx_QQ_room hQ (n1 := x_198.toInt) (by omega) (by omega)
              refine lv_aload_n hx hb dX10_compare_219 rfl (lv_at hl 4 rfl) ?_
              refine lv_iload_n hx hb dX10_compare_220 rfl (lv_at hl 5 rfl) ?_
              refine lv_iconst (v := 3) hx hb dX10_compare_221 (by decide) ?_
              refine lv_isub hx hb dX10_compare_222 ?_
              have rg_201 := i32_r i1
              refine lv_topi (fun x_202 ex_202 => ?_)
              have zx_202 : x_202.toInt = i1.toInt - 3 := by rw [ex_202]; exact i32_sub rfl (by decide) (by omega) (by omega)
              refine lv_iload hx hb dX10_compare_223 (lv_at hl 1 rfl) ?_
              refine lv_sipush (v := 10000) hx hb dX10_compare_225 (by decide) ?_
              refine lv_iload hx hb dX10_compare_228 (lv_at hl 0 rfl) ?_
              refine lv_iadd hx hb dX10_compare_230 ?_
              have rg_203 := i32_r r_163
              refine lv_topi (fun x_204 ex_204 => ?_)
              have zx_204 : x_204.toInt = 10000 + r_163.toInt := by rw [ex_204]; exact i32_add (by decide) rfl (by omega) (by omega)
              refine lv_iconst (v := 3) hx hb dX10_compare_231 (by decide) ?_
              refine lv_isub hx hb dX10_compare_232 ?_
              have rg_205 := i32_r x_204
              refine lv_topi (fun x_206 ex_206 => ?_)
              have zx_206 : x_206.toInt = x_204.toInt - 3 := by rw [ex_206]; exact i32_sub rfl (by decide) (by omega) (by omega)
              have zc_1 : (1 : Int32).toInt = 1 := by decide
              refine hx_goi (hx_runS (As := [.int x_202, .int (1 : Int32), .int x_206]) (rest := [.ref x]) ⟨hx, hb, hml, hown, hts⟩ hW (t_X10_compareOf l dC dI dA L_168 h_199 H.size x_202 (1 : Int32) x_206 hT ⟨by omega, by omega⟩ (by decide) ⟨by omega, by omega⟩) (va_cwS 3 hts (hx_gS kw_1132 kw_1130 kw_1131 kw_103) rfl rfl rfl (by decide +kernel) ⟨Nat.le_of_ble_eq_true rfl, Nat.le_of_ble_eq_true rfl⟩) rfl hl.1 rfl (Nat.le_of_ble_eq_true rfl) dX10_compare_233 ⟨Nat.le_of_ble_eq_true rfl, Nat.le_of_ble_eq_true rfl⟩) hW (fun r_209 L_207 h_208 H locs p_210 hW => ?_)
              obtain ⟨hr_211, hT, hs⟩ := p_210
              replace hT : hx_T T_tb L_207 h_208 := hT
              replace hs : hx_S T_tb [] L_168 h_199 L_207 h_208 := hs
              replace f_x_14 := (hs.o (gx.S hM) trivial rfl).1.trans f_x_14
              replace f_11 := (hs.o (gx.S hM) trivial rfl).1.trans f_11
              replace fw_167 := (hs.o (gx.S hM) trivial rfl).1.trans fw_167
              replace f_200 := (hs.o (gx.S hM) trivial rfl).1.trans f_200
              replace af_qs : h_208.2.1 qs = sf := (funext fun j => (hs.a (gqs.S hM) rfl j).1).trans af_qs
              replace ex_91 := ex_91.trans (hs.a (gqt.S hM) rfl _).1.symm
              replace hM := hM.tr (hs.mono (by decide))
              refine hx_gov (hx_runV (As := [.int r_209]) (rest := []) ⟨hx, hb, hml, hown, hts⟩ hW (gx.S hM) tt_10 (T := TX10) (N := 98) rfl (t_X10_writes l dC dI dA L_207 h_208 H.size x r_209 hT (gx.S hM) qs (gqs.S hM) ((hM.o gx trivial rfl).2.trans f_x_15) sf af_qs st0 f_x_14 (by omega)) (cwV 1 hts (hx_gV kw_1138 kw_1135 kw_1137 kw_50 kw_103) rfl rfl rfl (by decide +kernel) ⟨Nat.le_of_ble_eq_true rfl, Nat.le_of_ble_eq_true rfl⟩) rfl hl.1 rfl (Nat.le_of_ble_eq_true rfl) dX10_compare_236 ⟨Nat.le_of_ble_eq_true rfl, Nat.le_of_ble_eq_true rfl⟩) hW (fun L_212 h_213 H locs p_215 hW => ?_)
              obtain ⟨⟨w_217, w_218, fw_217, fw_218, hr_216⟩, hT, hs⟩ := p_215
              replace hT : hx_T T_tb L_212 h_213 := hT
              replace hs : hx_S T_tb [(10, 14), (55, 0)] L_207 h_208 L_212 h_213 := hs
              replace f_11 := (hs.o (gx.S hM) trivial rfl).1.trans f_11
              replace fw_167 := (hs.o (gx.S hM) trivial rfl).1.trans fw_167
              replace f_200 := (hs.o (gx.S hM) trivial rfl).1.trans f_200
              replace ex_91 := ex_91.trans (hs.a (gqt.S hM) rfl _).1.symm
              replace hM := hM.tr (hs.mono (by decide))
              have fw_217 : h_213.2.1 x 14 = w_217 := fw_217
              have bw_217 := hT.gi (gx.S hM) tt_10 (k := 14) rfl
              rw [fw_217] at bw_217
              have bw_217 : 0 ≤ w_217.toInt ∧ w_217.toInt ≤ 128 := bw_217
              have fw_218 : h_213.2.1 qs = w_218 := fw_218
              refine lv_iconst (v := 1) hx hb dX10_compare_239 (by decide) ?_
              exact hx_retz hx hb hr rfl hlk hW ⟨⟨x_9, x_198, w_217, w_218, f_11, f_200, fw_217, fw_218, ⟨by decide, by omega, fun _ => hx_QQ_cmp hQ (by omega) (by omega) (by omega) hr_211 (hx_cl (by omega)) (by omega) hr_216.1 hr_216.2⟩⟩, hT, hM⟩ dX10_compare_240
      · skip
        refine lv_iload_n hx hb dX10_compare_70 rfl (lv_at hl 0 rfl) ?_
        refine lv_bipush (v := 61) hx hb dX10_compare_71 (by decide) ?_
        refine hb_icmp_eq (zx := r_19.toInt) (zy := 61) (tgt := 92) hx hb rfl (by decide) dX10_compare_73 (by decide) (fun c_219 => ?_) (fun c_219 => ?_)
        · skip
          have hsl9 : w_22.toInt < tp0.toInt := by rcases hr_21.2.2 with q | q; (exfalso; omega); exact q.1
          clear hr_21
          refine lv_aload_n hx hb dX10_compare_92 rfl (lv_at hl 1 rfl) ?_
          refine lv_dup hx hb dX10_compare_93 rfl ?_
          refine hk_geti hx hb hts hC_10 hown hW (gx.S hM) tt_10 8 (by decide) rfl kw_1151 ⟨rfl, rfl, rfl⟩ fw_22 dX10_compare_94 ?_
          refine lv_iconst (v := 1) hx hb dX10_compare_97 (by decide) ?_
          refine lv_iadd hx hb dX10_compare_98 ?_
          have rg_220 := i32_r w_22
          refine lv_topi (fun x_221 ex_221 => ?_)
          have zx_221 : x_221.toInt = w_22.toInt + 1 := by rw [ex_221]; exact i32_add rfl (by decide) (by omega) (by omega)
          refine hx_puti hx hb hts hC_10 hown hW hT (hx_S.rf (M := [(10, 8)])) (gx.S hM) tt_10 8 (by decide) rfl kw_1151 ⟨rfl, rfl, rfl⟩ rfl (x := x_221) ⟨by omega, by omega⟩ rfl rfl rfl (List.mem_singleton.mpr rfl) dX10_compare_99 (fun H locs h_222 eh_222 hW hT hs => ?_)
          replace f_x_14 := (hs.o (gx.S hM) trivial rfl).1.trans f_x_14
          replace f_x_11 := (hs.o (gx.S hM) trivial rfl).1.trans f_x_11
          replace f_11 := (hs.o (gx.S hM) trivial rfl).1.trans f_11
          replace af_qs : h_222.2.1 qs = sf := (funext fun j => (hs.a (gqs.S hM) rfl j).1).trans af_qs
          replace hM := hM.tr (hs.mono (by decide))
          have f_223 : h_222.2.1 x 8 = x_221 := by rw [eh_222]; exact hx_pi_at _ _ _ _
          refine lv_iload_n hx hb dX10_compare_102 rfl (lv_at hl 0 rfl) ?_
          refine lv_bipush (v := 61) hx hb dX10_compare_103 (by decide) ?_
          refine hb_icmp_eq (zx := r_19.toInt) (zy := 61) (tgt := 137) hx hb rfl (by decide) dX10_compare_105 (by decide) (fun c_224 => ?_) (fun c_224 => by exfalso; omega)
          refine lv_iconst (v := 0) hx hb dX10_compare_137 (by decide) ?_
          refine lv_istore_n (lv' := [(3, .int (0 : Int32)), (2, .int r_19), (0, .ref x), (1, .int i1)]) hx hb dX10_compare_138 rfl hl (by decide) rfl (fun ls hl => ?_)
          refine lv_iload_n hx hb dX10_compare_139 rfl (lv_at hl 0 rfl) ?_
          refine hb_if_eq (zx := 0) (tgt := 153) hx hb (by decide) dX10_compare_140 (by decide) (fun c_225 => ?_) (fun c_225 => absurd c_225 (by decide))
          refine lv_iload_n hx hb dX10_compare_153 rfl (lv_at hl 1 rfl) ?_
          refine lv_bipush (v := 60) hx hb dX10_compare_154 (by decide) ?_
          refine hb_icmp_ne (zx := r_19.toInt) (zy := 60) (tgt := 171) hx hb rfl (by decide) dX10_compare_156 (by decide) (fun c_226 => ?_) (fun c_226 => by exfalso; omega)
          refine lv_iload_n hx hb dX10_compare_171 rfl (lv_at hl 1 rfl) ?_
          refine lv_bipush (v := 61) hx hb dX10_compare_172 (by decide) ?_
          refine hb_icmp_ne (zx := r_19.toInt) (zy := 61) (tgt := 181) hx hb rfl (by decide) dX10_compare_174 (by decide) (fun c_227 => by exfalso; omega) (fun c_227 => ?_)
          refine lv_iconst (v := 2) hx hb dX10_compare_177 (by decide) ?_
          refine lv_goto (tgt := 190) hx hb dX10_compare_178 (by decide) ?_
          refine lv_istore (lv' := [(4, .int (2 : Int32)), (3, .int (0 : Int32)), (2, .int r_19), (0, .ref x), (1, .int i1)]) hx hb dX10_compare_190 hl (by decide) rfl (fun ls hl => ?_)
          refine lv_aload_n hx hb dX10_compare_192 rfl (lv_at hl 3 rfl) ?_
          refine hx_goi (hx_runV (As := []) (rest := []) ⟨hx, hb, hml, hown, hts⟩ hW (gx.S hM) tt_10 (T := TX10) (N := 98) rfl (t_X10_wordHere l dC dI dA L_17 h_222 H.size x hT (gx.S hM) qt (gqt.S hM) ((hM.o gx trivial rfl).2.trans f_x_6) qw (gqw.S hM) ((hM.o gx trivial rfl).2.trans f_x_19) tf (hx_afS hM gqt rfl af_qt) wf (hx_afS hM gqw rfl af_qw) x_221 f_223 tp0 ((hM.o gx trivial rfl).1.trans f_x_7) hwd) (cwV 0 hts (hx_gV kw_1476 kw_1473 kw_1475 kw_55 kw_103) rfl rfl rfl (by decide +kernel) ⟨Nat.le_of_ble_eq_true rfl, Nat.le_of_ble_eq_true rfl⟩) rfl hl.1 rfl (Nat.le_of_ble_eq_true rfl) dX10_compare_193 ⟨Nat.le_of_ble_eq_true rfl, Nat.le_of_ble_eq_true rfl⟩) hW (fun r_230 L_228 h_229 H locs p_231 hW => ?_)
          obtain ⟨⟨w_233, w_234, fw_233, fw_234, hr_232⟩, hT, hs⟩ := p_231
          replace hT : hx_T T_tb L_228 h_229 := hT
          replace hs : hx_S T_tb [(10, 8), (10, 11)] L_17 h_222 L_228 h_229 := hs
          replace f_x_14 := (hs.o (gx.S hM) trivial rfl).1.trans f_x_14
          replace f_11 := (hs.o (gx.S hM) trivial rfl).1.trans f_11
          replace af_qs : h_229.2.1 qs = sf := (funext fun j => (hs.a (gqs.S hM) rfl j).1).trans af_qs
          replace hM := hM.tr (hs.mono (by decide))
          have fw_233 : h_229.2.1 x 8 = w_233 := fw_233
          have bw_233 := hT.gi (gx.S hM) tt_10 (k := 8) rfl
          rw [fw_233] at bw_233
          have bw_233 : 0 ≤ w_233.toInt ∧ w_233.toInt ≤ 402 := bw_233
          have fw_234 : h_229.2.1 x 11 = w_234 := fw_234
          have bw_234 := hT.gi (gx.S hM) tt_10 (k := 11) rfl
          rw [fw_234] at bw_234
          have bw_234 : 0 ≤ w_234.toInt ∧ w_234.toInt ≤ 400 := bw_234
          have hwa9 := And.intro hr_232.1 (And.intro (show w_233.toInt ≤ tp0.toInt by rcases hr_232.2.1 with q | q <;> omega) hr_232.2.2.1)
          have hwb9 := hr_232.2.2.2
          clear hr_232
          refine lv_istore (lv' := [(5, .int r_230), (4, .int (2 : Int32)), (3, .int (0 : Int32)), (2, .int r_19), (0, .ref x), (1, .int i1)]) hx hb dX10_compare_196 hl (by decide) rfl (fun ls hl => ?_)
          refine lv_iload hx hb dX10_compare_198 (lv_at hl 0 rfl) ?_
          refine hx_goi (hx_runS (As := [.int r_230]) (rest := []) ⟨hx, hb, hml, hown, hts⟩ hW (t_X10_isFact l dC dI dA L_228 h_229 H.size r_230 hT) (va_cwS 1 hts (hx_gS kw_1499 kw_1497 kw_1498 kw_103) rfl rfl rfl (by decide +kernel) ⟨Nat.le_of_ble_eq_true rfl, Nat.le_of_ble_eq_true rfl⟩) rfl hl.1 rfl (Nat.le_of_ble_eq_true rfl) dX10_compare_200 ⟨Nat.le_of_ble_eq_true rfl, Nat.le_of_ble_eq_true rfl⟩) hW (fun r_237 L_235 h_236 H locs p_238 hW => ?_)
          obtain ⟨hr_239, hT, hs⟩ := p_238
          replace hT : hx_T T_tb L_235 h_236 := hT
          replace hs : hx_S T_tb [] L_228 h_229 L_235 h_236 := hs
          replace f_x_14 := (hs.o (gx.S hM) trivial rfl).1.trans f_x_14
          replace f_11 := (hs.o (gx.S hM) trivial rfl).1.trans f_11
          replace fw_233 := (hs.o (gx.S hM) trivial rfl).1.trans fw_233
          replace fw_234 := (hs.o (gx.S hM) trivial rfl).1.trans fw_234
          replace af_qs : h_236.2.1 qs = sf := (funext fun j => (hs.a (gqs.S hM) rfl j).1).trans af_qs
          replace hM := hM.tr (hs.mono (by decide))
          refine hb_if_eq (zx := r_237.toInt) (tgt := 241) hx hb rfl dX10_compare_203 (by decide) (fun c_240 => ?_) (fun c_240 => ?_)
          · skip
            replace hr_239 := hr_239.resolve_right (fun z9 => absurd (c_240.symm.trans z9.1) (by decide))
            replace hr_239 := hr_239.2
            clear hwb9 hr_239
            refine lv_aload_n hx hb dX10_compare_241 rfl (lv_at hl 4 rfl) ?_
            refine lv_iconst (v := 0) hx hb dX10_compare_242 (by decide) ?_
            refine lv_sipush (v := 9999) hx hb dX10_compare_243 (by decide) ?_
            have zc_9999 : (9999 : Int32).toInt = 9999 := by decide
            have zc_0 : (0 : Int32).toInt = 0 := by decide
            refine hx_goi (hx_runV (As := [.int (0 : Int32), .int (9999 : Int32)]) (rest := []) ⟨hx, hb, hml, hown, hts⟩ hW (gx.S hM) tt_10 (T := TX10) (N := 98) rfl (t_X10_number l dC dI dA L_235 h_236 H.size x (0 : Int32) (9999 : Int32) hT (gx.S hM) qt (gqt.S hM) ((hM.o gx trivial rfl).2.trans f_x_6) tf (hx_afS hM gqt rfl af_qt) w_233 fw_233 tp0 ((hM.o gx trivial rfl).1.trans f_x_7)) (cwV 2 hts (hx_gV kw_1503 kw_1500 kw_1502 kw_61 kw_103) rfl rfl rfl (by decide +kernel) ⟨Nat.le_of_ble_eq_true rfl, Nat.le_of_ble_eq_true rfl⟩) rfl hl.1 rfl (Nat.le_of_ble_eq_true rfl) dX10_compare_246 ⟨Nat.le_of_ble_eq_true rfl, Nat.le_of_ble_eq_true rfl⟩) hW (fun r_243 L_241 h_242 H locs p_244 hW => ?_)
            obtain ⟨⟨w_246, w_247, fw_246, fw_247, hr_245⟩, hT, hs⟩ := p_244
            replace hT : hx_T T_tb L_241 h_242 := hT
            replace hs : hx_S T_tb [(10, 8), (10, 9), (10, 10)] L_235 h_236 L_241 h_242 := hs
            replace f_x_14 := (hs.o (gx.S hM) trivial rfl).1.trans f_x_14
            replace f_11 := (hs.o (gx.S hM) trivial rfl).1.trans f_11
            replace fw_234 := (hs.o (gx.S hM) trivial rfl).1.trans fw_234
            replace af_qs : h_242.2.1 qs = sf := (funext fun j => (hs.a (gqs.S hM) rfl j).1).trans af_qs
            replace hM := hM.tr (hs.mono (by decide))
            have fw_246 : h_242.2.1 x 8 = w_246 := fw_246
            have bw_246 := hT.gi (gx.S hM) tt_10 (k := 8) rfl
            rw [fw_246] at bw_246
            have bw_246 : 0 ≤ w_246.toInt ∧ w_246.toInt ≤ 402 := bw_246
            have fw_247 : h_242.2.1 x 10 = w_247 := fw_247
            have bw_247 := hT.gi (gx.S hM) tt_10 (k := 10) rfl
            rw [fw_247] at bw_247
            have bw_247 : 0 ≤ w_247.toInt ∧ w_247.toInt ≤ 9999 := bw_247
            refine hb_if_ne (zx := r_243.toInt) (tgt := 254) hx hb rfl dX10_compare_249 (by decide) (fun c_248 => ?_) (fun c_248 => ?_)
            · skip
              have hnu9 := hr_245.2.2.2 (by rcases hr_245.1 with q | q <;> omega); clear hr_245
              have hroom := hx_QQ_room hQ (n1 := w_246.toInt) (by omega) (by omega)
              refine lv_aload_n hx hb dX10_compare_254 rfl (lv_at hl 4 rfl) ?_
              refine lv_iload_n hx hb dX10_compare_255 rfl (lv_at hl 5 rfl) ?_
              refine lv_iconst (v := 3) hx hb dX10_compare_256 (by decide) ?_
              refine lv_isub hx hb dX10_compare_257 ?_
              have rg_249 := i32_r i1
              refine lv_topi (fun x_250 ex_250 => ?_)
              have zx_250 : x_250.toInt = i1.toInt - 3 := by rw [ex_250]; exact i32_sub rfl (by decide) (by omega) (by omega)
              refine lv_iload hx hb dX10_compare_258 (lv_at hl 1 rfl) ?_
              refine lv_aload_n hx hb dX10_compare_260 rfl (lv_at hl 4 rfl) ?_
              refine hk_geti hx hb hts hC_10 hown hW (gx.S hM) tt_10 10 (by decide) rfl kw_1153 ⟨rfl, rfl, rfl⟩ fw_247 dX10_compare_261 ?_
              have zc_2 : (2 : Int32).toInt = 2 := by decide
              refine hx_goi (hx_runS (As := [.int x_250, .int (2 : Int32), .int w_247]) (rest := [.ref x]) ⟨hx, hb, hml, hown, hts⟩ hW (t_X10_compareOf l dC dI dA L_241 h_242 H.size x_250 (2 : Int32) w_247 hT ⟨by omega, by omega⟩ (by decide) ⟨by omega, by omega⟩) (va_cwS 3 hts (hx_gS kw_1132 kw_1130 kw_1131 kw_103) rfl rfl rfl (by decide +kernel) ⟨Nat.le_of_ble_eq_true rfl, Nat.le_of_ble_eq_true rfl⟩) rfl hl.1 rfl (Nat.le_of_ble_eq_true rfl) dX10_compare_264 ⟨Nat.le_of_ble_eq_true rfl, Nat.le_of_ble_eq_true rfl⟩) hW (fun r_253 L_251 h_252 H locs p_254 hW => ?_)
              obtain ⟨hr_255, hT, hs⟩ := p_254
              replace hT : hx_T T_tb L_251 h_252 := hT
              replace hs : hx_S T_tb [] L_241 h_242 L_251 h_252 := hs
              replace f_x_14 := (hs.o (gx.S hM) trivial rfl).1.trans f_x_14
              replace f_11 := (hs.o (gx.S hM) trivial rfl).1.trans f_11
              replace fw_234 := (hs.o (gx.S hM) trivial rfl).1.trans fw_234
              replace fw_246 := (hs.o (gx.S hM) trivial rfl).1.trans fw_246
              replace fw_247 := (hs.o (gx.S hM) trivial rfl).1.trans fw_247
              replace af_qs : h_252.2.1 qs = sf := (funext fun j => (hs.a (gqs.S hM) rfl j).1).trans af_qs
              replace hM := hM.tr (hs.mono (by decide))
              refine hx_gov (hx_runV (As := [.int r_253]) (rest := []) ⟨hx, hb, hml, hown, hts⟩ hW (gx.S hM) tt_10 (T := TX10) (N := 98) rfl (t_X10_writes l dC dI dA L_251 h_252 H.size x r_253 hT (gx.S hM) qs (gqs.S hM) ((hM.o gx trivial rfl).2.trans f_x_15) sf af_qs st0 f_x_14 (by omega)) (cwV 1 hts (hx_gV kw_1138 kw_1135 kw_1137 kw_50 kw_103) rfl rfl rfl (by decide +kernel) ⟨Nat.le_of_ble_eq_true rfl, Nat.le_of_ble_eq_true rfl⟩) rfl hl.1 rfl (Nat.le_of_ble_eq_true rfl) dX10_compare_267 ⟨Nat.le_of_ble_eq_true rfl, Nat.le_of_ble_eq_true rfl⟩) hW (fun L_256 h_257 H locs p_259 hW => ?_)
              obtain ⟨⟨w_261, w_262, fw_261, fw_262, hr_260⟩, hT, hs⟩ := p_259
              replace hT : hx_T T_tb L_256 h_257 := hT
              replace hs : hx_S T_tb [(10, 14), (55, 0)] L_251 h_252 L_256 h_257 := hs
              replace f_11 := (hs.o (gx.S hM) trivial rfl).1.trans f_11
              replace fw_234 := (hs.o (gx.S hM) trivial rfl).1.trans fw_234
              replace fw_246 := (hs.o (gx.S hM) trivial rfl).1.trans fw_246
              replace fw_247 := (hs.o (gx.S hM) trivial rfl).1.trans fw_247
              replace hM := hM.tr (hs.mono (by decide))
              have fw_261 : h_257.2.1 x 14 = w_261 := fw_261
              have bw_261 := hT.gi (gx.S hM) tt_10 (k := 14) rfl
              rw [fw_261] at bw_261
              have bw_261 : 0 ≤ w_261.toInt ∧ w_261.toInt ≤ 128 := bw_261
              have fw_262 : h_257.2.1 qs = w_262 := fw_262
              refine lv_iconst (v := 1) hx hb dX10_compare_270 (by decide) ?_
              exact hx_retz hx hb hr rfl hlk hW ⟨⟨x_9, w_246, w_261, w_262, f_11, fw_246, fw_261, fw_262, ⟨by decide, by omega, fun _ => hx_QQ_cmp hQ (by omega) (by omega) (by omega) hr_255 (hx_cl (by omega)) (by omega) hr_260.1 hr_260.2⟩⟩, hT, hM⟩ dX10_compare_271
            · skip
              have hnu9 := hr_245.2.1; clear hr_245
              refine lv_iconst (v := 0) hx hb dX10_compare_252 (by decide) ?_
              exact hx_retz hx hb hr rfl hlk hW ⟨⟨x_9, w_246, st0, sf, f_11, fw_246, f_x_14, af_qs, ⟨by decide, by omega, fun z => absurd z (by decide)⟩⟩, hT, hM⟩ dX10_compare_253
          · skip
            replace hr_239 := hr_239.resolve_left (fun z9 => c_240 z9.1)
            replace c_240 := hr_239.1
            replace hr_239 := hr_239.2
            have hwc9 : 3 ≤ r_230.toInt ∧ r_230.toInt ≤ 10 := by clear hwb9; omega
            clear hr_239
            have hwd9 : w_233.toInt + w_234.toInt ≤ tp0.toInt ∧ 3 ≤ w_234.toInt := by rcases hwb9 with q | ⟨_, _, q1, _, _, _, _, q2, _⟩; (exfalso; omega); exact ⟨q1, q2 hwc9⟩
            clear hwb9
            refine lv_aload_n hx hb dX10_compare_206 rfl (lv_at hl 4 rfl) ?_
            refine lv_dup hx hb dX10_compare_207 rfl ?_
            refine hk_geti hx hb hts hC_10 hown hW (gx.S hM) tt_10 8 (by decide) rfl kw_1151 ⟨rfl, rfl, rfl⟩ fw_233 dX10_compare_208 ?_
            refine lv_aload_n hx hb dX10_compare_211 rfl (lv_at hl 4 rfl) ?_
            refine hk_geti hx hb hts hC_10 hown hW (gx.S hM) tt_10 11 (by decide) rfl kw_1154 ⟨rfl, rfl, rfl⟩ fw_234 dX10_compare_212 ?_
            refine lv_iadd hx hb dX10_compare_215 ?_
            have rg_263 := i32_r w_233
            have rg_264 := i32_r w_234
            refine lv_topi (fun x_265 ex_265 => ?_)
            have zx_265 : x_265.toInt = w_233.toInt + w_234.toInt := by rw [ex_265]; exact i32_add rfl rfl (by omega) (by omega)
            refine hx_puti hx hb hts hC_10 hown hW hT (hx_S.rf (M := [(10, 8)])) (gx.S hM) tt_10 8 (by decide) rfl kw_1151 ⟨rfl, rfl, rfl⟩ rfl (x := x_265) ⟨by omega, by omega⟩ rfl rfl rfl (List.mem_singleton.mpr rfl) dX10_compare_216 (fun H locs h_266 eh_266 hW hT hs => ?_)
            replace f_x_14 := (hs.o (gx.S hM) trivial rfl).1.trans f_x_14
            replace f_11 := (hs.o (gx.S hM) trivial rfl).1.trans f_11
            replace fw_234 := (hs.o (gx.S hM) trivial rfl).1.trans fw_234
            replace af_qs : h_266.2.1 qs = sf := (funext fun j => (hs.a (gqs.S hM) rfl j).1).trans af_qs
            replace hM := hM.tr (hs.mono (by decide))
            have f_267 : h_266.2.1 x 8 = x_265 := by rw [eh_266]; exact hx_pi_at _ _ _ _
            have hroom := hx_QQ_room hQ (n1 := x_265.toInt) (by omega) (by omega)
            refine lv_aload_n hx hb dX10_compare_219 rfl (lv_at hl 4 rfl) ?_
            refine lv_iload_n hx hb dX10_compare_220 rfl (lv_at hl 5 rfl) ?_
            refine lv_iconst (v := 3) hx hb dX10_compare_221 (by decide) ?_
            refine lv_isub hx hb dX10_compare_222 ?_
            have rg_268 := i32_r i1
            refine lv_topi (fun x_269 ex_269 => ?_)
            have zx_269 : x_269.toInt = i1.toInt - 3 := by rw [ex_269]; exact i32_sub rfl (by decide) (by omega) (by omega)
            refine lv_iload hx hb dX10_compare_223 (lv_at hl 1 rfl) ?_
            refine lv_sipush (v := 10000) hx hb dX10_compare_225 (by decide) ?_
            refine lv_iload hx hb dX10_compare_228 (lv_at hl 0 rfl) ?_
            refine lv_iadd hx hb dX10_compare_230 ?_
            have rg_270 := i32_r r_230
            refine lv_topi (fun x_271 ex_271 => ?_)
            have zx_271 : x_271.toInt = 10000 + r_230.toInt := by rw [ex_271]; exact i32_add (by decide) rfl (by omega) (by omega)
            refine lv_iconst (v := 3) hx hb dX10_compare_231 (by decide) ?_
            refine lv_isub hx hb dX10_compare_232 ?_
            have rg_272 := i32_r x_271
            refine lv_topi (fun x_273 ex_273 => ?_)
            have zx_273 : x_273.toInt = x_271.toInt - 3 := by rw [ex_273]; exact i32_sub rfl (by decide) (by omega) (by omega)
            have zc_2 : (2 : Int32).toInt = 2 := by decide
            refine hx_goi (hx_runS (As := [.int x_269, .int (2 : Int32), .int x_273]) (rest := [.ref x]) ⟨hx, hb, hml, hown, hts⟩ hW (t_X10_compareOf l dC dI dA L_235 h_266 H.size x_269 (2 : Int32) x_273 hT ⟨by omega, by omega⟩ (by decide) ⟨by omega, by omega⟩) (va_cwS 3 hts (hx_gS kw_1132 kw_1130 kw_1131 kw_103) rfl rfl rfl (by decide +kernel) ⟨Nat.le_of_ble_eq_true rfl, Nat.le_of_ble_eq_true rfl⟩) rfl hl.1 rfl (Nat.le_of_ble_eq_true rfl) dX10_compare_233 ⟨Nat.le_of_ble_eq_true rfl, Nat.le_of_ble_eq_true rfl⟩) hW (fun r_276 L_274 h_275 H locs p_277 hW => ?_)
            obtain ⟨hr_278, hT, hs⟩ := p_277
            replace hT : hx_T T_tb L_274 h_275 := hT
            replace hs : hx_S T_tb [] L_235 h_266 L_274 h_275 := hs
            replace f_x_14 := (hs.o (gx.S hM) trivial rfl).1.trans f_x_14
            replace f_11 := (hs.o (gx.S hM) trivial rfl).1.trans f_11
            replace fw_234 := (hs.o (gx.S hM) trivial rfl).1.trans fw_234
            replace f_267 := (hs.o (gx.S hM) trivial rfl).1.trans f_267
            replace af_qs : h_275.2.1 qs = sf := (funext fun j => (hs.a (gqs.S hM) rfl j).1).trans af_qs
            replace hM := hM.tr (hs.mono (by decide))
            refine hx_gov (hx_runV (As := [.int r_276]) (rest := []) ⟨hx, hb, hml, hown, hts⟩ hW (gx.S hM) tt_10 (T := TX10) (N := 98) rfl (t_X10_writes l dC dI dA L_274 h_275 H.size x r_276 hT (gx.S hM) qs (gqs.S hM) ((hM.o gx trivial rfl).2.trans f_x_15) sf af_qs st0 f_x_14 (by omega)) (cwV 1 hts (hx_gV kw_1138 kw_1135 kw_1137 kw_50 kw_103) rfl rfl rfl (by decide +kernel) ⟨Nat.le_of_ble_eq_true rfl, Nat.le_of_ble_eq_true rfl⟩) rfl hl.1 rfl (Nat.le_of_ble_eq_true rfl) dX10_compare_236 ⟨Nat.le_of_ble_eq_true rfl, Nat.le_of_ble_eq_true rfl⟩) hW (fun L_279 h_280 H locs p_282 hW => ?_)
            obtain ⟨⟨w_284, w_285, fw_284, fw_285, hr_283⟩, hT, hs⟩ := p_282
            replace hT : hx_T T_tb L_279 h_280 := hT
            replace hs : hx_S T_tb [(10, 14), (55, 0)] L_274 h_275 L_279 h_280 := hs
            replace f_11 := (hs.o (gx.S hM) trivial rfl).1.trans f_11
            replace fw_234 := (hs.o (gx.S hM) trivial rfl).1.trans fw_234
            replace f_267 := (hs.o (gx.S hM) trivial rfl).1.trans f_267
            replace hM := hM.tr (hs.mono (by decide))
            have fw_284 : h_280.2.1 x 14 = w_284 := fw_284
            have bw_284 := hT.gi (gx.S hM) tt_10 (k := 14) rfl
            rw [fw_284] at bw_284
            have bw_284 : 0 ≤ w_284.toInt ∧ w_284.toInt ≤ 128 := bw_284
            have fw_285 : h_280.2.1 qs = w_285 := fw_285
            refine lv_iconst (v := 1) hx hb dX10_compare_239 (by decide) ?_
            exact hx_retz hx hb hr rfl hlk hW ⟨⟨x_9, x_265, w_284, w_285, f_11, f_267, fw_284, fw_285, ⟨by decide, by omega, fun _ => hx_QQ_cmp hQ (by omega) (by omega) (by omega) hr_278 (hx_cl (by omega)) (by omega) hr_283.1 hr_283.2⟩⟩, hT, hM⟩ dX10_compare_240
        · skip
          refine lv_iload_n hx hb dX10_compare_76 rfl (lv_at hl 0 rfl) ?_
          refine lv_bipush (v := 62) hx hb dX10_compare_77 (by decide) ?_
          refine hb_icmp_eq (zx := r_19.toInt) (zy := 62) (tgt := 92) hx hb rfl (by decide) dX10_compare_79 (by decide) (fun c_286 => ?_) (fun c_286 => ?_)
          · skip
            have hsl9 : w_22.toInt < tp0.toInt := by rcases hr_21.2.2 with q | q; (exfalso; omega); exact q.1
            clear hr_21
            refine lv_aload_n hx hb dX10_compare_92 rfl (lv_at hl 1 rfl) ?_
            refine lv_dup hx hb dX10_compare_93 rfl ?_
            refine hk_geti hx hb hts hC_10 hown hW (gx.S hM) tt_10 8 (by decide) rfl kw_1151 ⟨rfl, rfl, rfl⟩ fw_22 dX10_compare_94 ?_
            refine lv_iconst (v := 1) hx hb dX10_compare_97 (by decide) ?_
            refine lv_iadd hx hb dX10_compare_98 ?_
            have rg_287 := i32_r w_22
            refine lv_topi (fun x_288 ex_288 => ?_)
            have zx_288 : x_288.toInt = w_22.toInt + 1 := by rw [ex_288]; exact i32_add rfl (by decide) (by omega) (by omega)
            refine hx_puti hx hb hts hC_10 hown hW hT (hx_S.rf (M := [(10, 8)])) (gx.S hM) tt_10 8 (by decide) rfl kw_1151 ⟨rfl, rfl, rfl⟩ rfl (x := x_288) ⟨by omega, by omega⟩ rfl rfl rfl (List.mem_singleton.mpr rfl) dX10_compare_99 (fun H locs h_289 eh_289 hW hT hs => ?_)
            replace f_x_14 := (hs.o (gx.S hM) trivial rfl).1.trans f_x_14
            replace f_x_11 := (hs.o (gx.S hM) trivial rfl).1.trans f_x_11
            replace f_11 := (hs.o (gx.S hM) trivial rfl).1.trans f_11
            replace af_qs : h_289.2.1 qs = sf := (funext fun j => (hs.a (gqs.S hM) rfl j).1).trans af_qs
            replace hM := hM.tr (hs.mono (by decide))
            have f_290 : h_289.2.1 x 8 = x_288 := by rw [eh_289]; exact hx_pi_at _ _ _ _
            refine lv_iload_n hx hb dX10_compare_102 rfl (lv_at hl 0 rfl) ?_
            refine lv_bipush (v := 61) hx hb dX10_compare_103 (by decide) ?_
            refine hb_icmp_eq (zx := r_19.toInt) (zy := 61) (tgt := 137) hx hb rfl (by decide) dX10_compare_105 (by decide) (fun c_291 => by exfalso; omega) (fun c_291 => ?_)
            refine lv_aload_n hx hb dX10_compare_108 rfl (lv_at hl 1 rfl) ?_
            refine hk_geti hx hb hts hC_10 hown hW (gx.S hM) tt_10 8 (by decide) rfl kw_1151 ⟨rfl, rfl, rfl⟩ f_290 dX10_compare_109 ?_
            refine lv_aload_n hx hb dX10_compare_112 rfl (lv_at hl 1 rfl) ?_
            refine hk_geti hx hb hts hC_10 hown hW (gx.S hM) tt_10 7 (by decide) rfl kw_1150 ⟨rfl, rfl, rfl⟩ ((hM.o gx trivial rfl).1.trans f_x_7) dX10_compare_113 ?_
            refine hb_icmp_ge (zx := x_288.toInt) (zy := tp0.toInt) (tgt := 137) hx hb rfl rfl dX10_compare_116 (by decide) (fun c_292 => ?_) (fun c_292 => ?_)
            · skip
              refine lv_iconst (v := 0) hx hb dX10_compare_137 (by decide) ?_
              refine lv_istore_n (lv' := [(3, .int (0 : Int32)), (2, .int r_19), (0, .ref x), (1, .int i1)]) hx hb dX10_compare_138 rfl hl (by decide) rfl (fun ls hl => ?_)
              refine lv_iload_n hx hb dX10_compare_139 rfl (lv_at hl 0 rfl) ?_
              refine hb_if_eq (zx := 0) (tgt := 153) hx hb (by decide) dX10_compare_140 (by decide) (fun c_293 => ?_) (fun c_293 => absurd c_293 (by decide))
              refine lv_iload_n hx hb dX10_compare_153 rfl (lv_at hl 1 rfl) ?_
              refine lv_bipush (v := 60) hx hb dX10_compare_154 (by decide) ?_
              refine hb_icmp_ne (zx := r_19.toInt) (zy := 60) (tgt := 171) hx hb rfl (by decide) dX10_compare_156 (by decide) (fun c_294 => ?_) (fun c_294 => by exfalso; omega)
              refine lv_iload_n hx hb dX10_compare_171 rfl (lv_at hl 1 rfl) ?_
              refine lv_bipush (v := 61) hx hb dX10_compare_172 (by decide) ?_
              refine hb_icmp_ne (zx := r_19.toInt) (zy := 61) (tgt := 181) hx hb rfl (by decide) dX10_compare_174 (by decide) (fun c_295 => ?_) (fun c_295 => by exfalso; omega)
              refine lv_iload_n hx hb dX10_compare_181 rfl (lv_at hl 0 rfl) ?_
              refine hb_if_eq (zx := 0) (tgt := 189) hx hb (by decide) dX10_compare_182 (by decide) (fun c_296 => ?_) (fun c_296 => absurd c_296 (by decide))
              refine lv_iconst (v := 4) hx hb dX10_compare_189 (by decide) ?_
              refine lv_istore (lv' := [(4, .int (4 : Int32)), (3, .int (0 : Int32)), (2, .int r_19), (0, .ref x), (1, .int i1)]) hx hb dX10_compare_190 hl (by decide) rfl (fun ls hl => ?_)
              refine lv_aload_n hx hb dX10_compare_192 rfl (lv_at hl 3 rfl) ?_
              refine hx_goi (hx_runV (As := []) (rest := []) ⟨hx, hb, hml, hown, hts⟩ hW (gx.S hM) tt_10 (T := TX10) (N := 98) rfl (t_X10_wordHere l dC dI dA L_17 h_289 H.size x hT (gx.S hM) qt (gqt.S hM) ((hM.o gx trivial rfl).2.trans f_x_6) qw (gqw.S hM) ((hM.o gx trivial rfl).2.trans f_x_19) tf (hx_afS hM gqt rfl af_qt) wf (hx_afS hM gqw rfl af_qw) x_288 f_290 tp0 ((hM.o gx trivial rfl).1.trans f_x_7) hwd) (cwV 0 hts (hx_gV kw_1476 kw_1473 kw_1475 kw_55 kw_103) rfl rfl rfl (by decide +kernel) ⟨Nat.le_of_ble_eq_true rfl, Nat.le_of_ble_eq_true rfl⟩) rfl hl.1 rfl (Nat.le_of_ble_eq_true rfl) dX10_compare_193 ⟨Nat.le_of_ble_eq_true rfl, Nat.le_of_ble_eq_true rfl⟩) hW (fun r_299 L_297 h_298 H locs p_300 hW => ?_)
              obtain ⟨⟨w_302, w_303, fw_302, fw_303, hr_301⟩, hT, hs⟩ := p_300
              replace hT : hx_T T_tb L_297 h_298 := hT
              replace hs : hx_S T_tb [(10, 8), (10, 11)] L_17 h_289 L_297 h_298 := hs
              replace f_x_14 := (hs.o (gx.S hM) trivial rfl).1.trans f_x_14
              replace f_11 := (hs.o (gx.S hM) trivial rfl).1.trans f_11
              replace af_qs : h_298.2.1 qs = sf := (funext fun j => (hs.a (gqs.S hM) rfl j).1).trans af_qs
              replace hM := hM.tr (hs.mono (by decide))
              have fw_302 : h_298.2.1 x 8 = w_302 := fw_302
              have bw_302 := hT.gi (gx.S hM) tt_10 (k := 8) rfl
              rw [fw_302] at bw_302
              have bw_302 : 0 ≤ w_302.toInt ∧ w_302.toInt ≤ 402 := bw_302
              have fw_303 : h_298.2.1 x 11 = w_303 := fw_303
              have bw_303 := hT.gi (gx.S hM) tt_10 (k := 11) rfl
              rw [fw_303] at bw_303
              have bw_303 : 0 ≤ w_303.toInt ∧ w_303.toInt ≤ 400 := bw_303
              have hwa9 := And.intro hr_301.1 (And.intro (show w_302.toInt ≤ tp0.toInt by rcases hr_301.2.1 with q | q <;> omega) hr_301.2.2.1)
              have hwb9 := hr_301.2.2.2
              clear hr_301
              refine lv_istore (lv' := [(5, .int r_299), (4, .int (4 : Int32)), (3, .int (0 : Int32)), (2, .int r_19), (0, .ref x), (1, .int i1)]) hx hb dX10_compare_196 hl (by decide) rfl (fun ls hl => ?_)
              refine lv_iload hx hb dX10_compare_198 (lv_at hl 0 rfl) ?_
              refine hx_goi (hx_runS (As := [.int r_299]) (rest := []) ⟨hx, hb, hml, hown, hts⟩ hW (t_X10_isFact l dC dI dA L_297 h_298 H.size r_299 hT) (va_cwS 1 hts (hx_gS kw_1499 kw_1497 kw_1498 kw_103) rfl rfl rfl (by decide +kernel) ⟨Nat.le_of_ble_eq_true rfl, Nat.le_of_ble_eq_true rfl⟩) rfl hl.1 rfl (Nat.le_of_ble_eq_true rfl) dX10_compare_200 ⟨Nat.le_of_ble_eq_true rfl, Nat.le_of_ble_eq_true rfl⟩) hW (fun r_306 L_304 h_305 H locs p_307 hW => ?_)
              obtain ⟨hr_308, hT, hs⟩ := p_307
              replace hT : hx_T T_tb L_304 h_305 := hT
              replace hs : hx_S T_tb [] L_297 h_298 L_304 h_305 := hs
              replace f_x_14 := (hs.o (gx.S hM) trivial rfl).1.trans f_x_14
              replace f_11 := (hs.o (gx.S hM) trivial rfl).1.trans f_11
              replace fw_302 := (hs.o (gx.S hM) trivial rfl).1.trans fw_302
              replace fw_303 := (hs.o (gx.S hM) trivial rfl).1.trans fw_303
              replace af_qs : h_305.2.1 qs = sf := (funext fun j => (hs.a (gqs.S hM) rfl j).1).trans af_qs
              replace hM := hM.tr (hs.mono (by decide))
              refine hb_if_eq (zx := r_306.toInt) (tgt := 241) hx hb rfl dX10_compare_203 (by decide) (fun c_309 => ?_) (fun c_309 => ?_)
              · skip
                replace hr_308 := hr_308.resolve_right (fun z9 => absurd (c_309.symm.trans z9.1) (by decide))
                replace hr_308 := hr_308.2
                clear hwb9 hr_308
                refine lv_aload_n hx hb dX10_compare_241 rfl (lv_at hl 4 rfl) ?_
                refine lv_iconst (v := 0) hx hb dX10_compare_242 (by decide) ?_
                refine lv_sipush (v := 9999) hx hb dX10_compare_243 (by decide) ?_
                have zc_9999 : (9999 : Int32).toInt = 9999 := by decide
                have zc_0 : (0 : Int32).toInt = 0 := by decide
                refine hx_goi (hx_runV (As := [.int (0 : Int32), .int (9999 : Int32)]) (rest := []) ⟨hx, hb, hml, hown, hts⟩ hW (gx.S hM) tt_10 (T := TX10) (N := 98) rfl (t_X10_number l dC dI dA L_304 h_305 H.size x (0 : Int32) (9999 : Int32) hT (gx.S hM) qt (gqt.S hM) ((hM.o gx trivial rfl).2.trans f_x_6) tf (hx_afS hM gqt rfl af_qt) w_302 fw_302 tp0 ((hM.o gx trivial rfl).1.trans f_x_7)) (cwV 2 hts (hx_gV kw_1503 kw_1500 kw_1502 kw_61 kw_103) rfl rfl rfl (by decide +kernel) ⟨Nat.le_of_ble_eq_true rfl, Nat.le_of_ble_eq_true rfl⟩) rfl hl.1 rfl (Nat.le_of_ble_eq_true rfl) dX10_compare_246 ⟨Nat.le_of_ble_eq_true rfl, Nat.le_of_ble_eq_true rfl⟩) hW (fun r_312 L_310 h_311 H locs p_313 hW => ?_)
                obtain ⟨⟨w_315, w_316, fw_315, fw_316, hr_314⟩, hT, hs⟩ := p_313
                replace hT : hx_T T_tb L_310 h_311 := hT
                replace hs : hx_S T_tb [(10, 8), (10, 9), (10, 10)] L_304 h_305 L_310 h_311 := hs
                replace f_x_14 := (hs.o (gx.S hM) trivial rfl).1.trans f_x_14
                replace f_11 := (hs.o (gx.S hM) trivial rfl).1.trans f_11
                replace fw_303 := (hs.o (gx.S hM) trivial rfl).1.trans fw_303
                replace af_qs : h_311.2.1 qs = sf := (funext fun j => (hs.a (gqs.S hM) rfl j).1).trans af_qs
                replace hM := hM.tr (hs.mono (by decide))
                have fw_315 : h_311.2.1 x 8 = w_315 := fw_315
                have bw_315 := hT.gi (gx.S hM) tt_10 (k := 8) rfl
                rw [fw_315] at bw_315
                have bw_315 : 0 ≤ w_315.toInt ∧ w_315.toInt ≤ 402 := bw_315
                have fw_316 : h_311.2.1 x 10 = w_316 := fw_316
                have bw_316 := hT.gi (gx.S hM) tt_10 (k := 10) rfl
                rw [fw_316] at bw_316
                have bw_316 : 0 ≤ w_316.toInt ∧ w_316.toInt ≤ 9999 := bw_316
                refine hb_if_ne (zx := r_312.toInt) (tgt := 254) hx hb rfl dX10_compare_249 (by decide) (fun c_317 => ?_) (fun c_317 => ?_)
                · skip
                  have hnu9 := hr_314.2.2.2 (by rcases hr_314.1 with q | q <;> omega); clear hr_314
                  have hroom := hx_QQ_room hQ (n1 := w_315.toInt) (by omega) (by omega)
                  refine lv_aload_n hx hb dX10_compare_254 rfl (lv_at hl 4 rfl) ?_
                  refine lv_iload_n hx hb dX10_compare_255 rfl (lv_at hl 5 rfl) ?_
                  refine lv_iconst (v := 3) hx hb dX10_compare_256 (by decide) ?_
                  refine lv_isub hx hb dX10_compare_257 ?_
                  have rg_318 := i32_r i1
                  refine lv_topi (fun x_319 ex_319 => ?_)
                  have zx_319 : x_319.toInt = i1.toInt - 3 := by rw [ex_319]; exact i32_sub rfl (by decide) (by omega) (by omega)
                  refine lv_iload hx hb dX10_compare_258 (lv_at hl 1 rfl) ?_
                  refine lv_aload_n hx hb dX10_compare_260 rfl (lv_at hl 4 rfl) ?_
                  refine hk_geti hx hb hts hC_10 hown hW (gx.S hM) tt_10 10 (by decide) rfl kw_1153 ⟨rfl, rfl, rfl⟩ fw_316 dX10_compare_261 ?_
                  have zc_4 : (4 : Int32).toInt = 4 := by decide
                  refine hx_goi (hx_runS (As := [.int x_319, .int (4 : Int32), .int w_316]) (rest := [.ref x]) ⟨hx, hb, hml, hown, hts⟩ hW (t_X10_compareOf l dC dI dA L_310 h_311 H.size x_319 (4 : Int32) w_316 hT ⟨by omega, by omega⟩ (by decide) ⟨by omega, by omega⟩) (va_cwS 3 hts (hx_gS kw_1132 kw_1130 kw_1131 kw_103) rfl rfl rfl (by decide +kernel) ⟨Nat.le_of_ble_eq_true rfl, Nat.le_of_ble_eq_true rfl⟩) rfl hl.1 rfl (Nat.le_of_ble_eq_true rfl) dX10_compare_264 ⟨Nat.le_of_ble_eq_true rfl, Nat.le_of_ble_eq_true rfl⟩) hW (fun r_322 L_320 h_321 H locs p_323 hW => ?_)
                  obtain ⟨hr_324, hT, hs⟩ := p_323
                  replace hT : hx_T T_tb L_320 h_321 := hT
                  replace hs : hx_S T_tb [] L_310 h_311 L_320 h_321 := hs
                  replace f_x_14 := (hs.o (gx.S hM) trivial rfl).1.trans f_x_14
                  replace f_11 := (hs.o (gx.S hM) trivial rfl).1.trans f_11
                  replace fw_303 := (hs.o (gx.S hM) trivial rfl).1.trans fw_303
                  replace fw_315 := (hs.o (gx.S hM) trivial rfl).1.trans fw_315
                  replace fw_316 := (hs.o (gx.S hM) trivial rfl).1.trans fw_316
                  replace af_qs : h_321.2.1 qs = sf := (funext fun j => (hs.a (gqs.S hM) rfl j).1).trans af_qs
                  replace hM := hM.tr (hs.mono (by decide))
                  refine hx_gov (hx_runV (As := [.int r_322]) (rest := []) ⟨hx, hb, hml, hown, hts⟩ hW (gx.S hM) tt_10 (T := TX10) (N := 98) rfl (t_X10_writes l dC dI dA L_320 h_321 H.size x r_322 hT (gx.S hM) qs (gqs.S hM) ((hM.o gx trivial rfl).2.trans f_x_15) sf af_qs st0 f_x_14 (by omega)) (cwV 1 hts (hx_gV kw_1138 kw_1135 kw_1137 kw_50 kw_103) rfl rfl rfl (by decide +kernel) ⟨Nat.le_of_ble_eq_true rfl, Nat.le_of_ble_eq_true rfl⟩) rfl hl.1 rfl (Nat.le_of_ble_eq_true rfl) dX10_compare_267 ⟨Nat.le_of_ble_eq_true rfl, Nat.le_of_ble_eq_true rfl⟩) hW (fun L_325 h_326 H locs p_328 hW => ?_)
                  obtain ⟨⟨w_330, w_331, fw_330, fw_331, hr_329⟩, hT, hs⟩ := p_328
                  replace hT : hx_T T_tb L_325 h_326 := hT
                  replace hs : hx_S T_tb [(10, 14), (55, 0)] L_320 h_321 L_325 h_326 := hs
                  replace f_11 := (hs.o (gx.S hM) trivial rfl).1.trans f_11
                  replace fw_303 := (hs.o (gx.S hM) trivial rfl).1.trans fw_303
                  replace fw_315 := (hs.o (gx.S hM) trivial rfl).1.trans fw_315
                  replace fw_316 := (hs.o (gx.S hM) trivial rfl).1.trans fw_316
                  replace hM := hM.tr (hs.mono (by decide))
                  have fw_330 : h_326.2.1 x 14 = w_330 := fw_330
                  have bw_330 := hT.gi (gx.S hM) tt_10 (k := 14) rfl
                  rw [fw_330] at bw_330
                  have bw_330 : 0 ≤ w_330.toInt ∧ w_330.toInt ≤ 128 := bw_330
                  have fw_331 : h_326.2.1 qs = w_331 := fw_331
                  refine lv_iconst (v := 1) hx hb dX10_compare_270 (by decide) ?_
                  exact hx_retz hx hb hr rfl hlk hW ⟨⟨x_9, w_315, w_330, w_331, f_11, fw_315, fw_330, fw_331, ⟨by decide, by omega, fun _ => hx_QQ_cmp hQ (by omega) (by omega) (by omega) hr_324 (hx_cl (by omega)) (by omega) hr_329.1 hr_329.2⟩⟩, hT, hM⟩ dX10_compare_271
                · skip
                  have hnu9 := hr_314.2.1; clear hr_314
                  refine lv_iconst (v := 0) hx hb dX10_compare_252 (by decide) ?_
                  exact hx_retz hx hb hr rfl hlk hW ⟨⟨x_9, w_315, st0, sf, f_11, fw_315, f_x_14, af_qs, ⟨by decide, by omega, fun z => absurd z (by decide)⟩⟩, hT, hM⟩ dX10_compare_253
              · skip
                replace hr_308 := hr_308.resolve_left (fun z9 => c_309 z9.1)
                replace c_309 := hr_308.1
                replace hr_308 := hr_308.2
                have hwc9 : 3 ≤ r_299.toInt ∧ r_299.toInt ≤ 10 := by clear hwb9; omega
                clear hr_308
                have hwd9 : w_302.toInt + w_303.toInt ≤ tp0.toInt ∧ 3 ≤ w_303.toInt := by rcases hwb9 with q | ⟨_, _, q1, _, _, _, _, q2, _⟩; (exfalso; omega); exact ⟨q1, q2 hwc9⟩
                clear hwb9
                refine lv_aload_n hx hb dX10_compare_206 rfl (lv_at hl 4 rfl) ?_
                refine lv_dup hx hb dX10_compare_207 rfl ?_
                refine hk_geti hx hb hts hC_10 hown hW (gx.S hM) tt_10 8 (by decide) rfl kw_1151 ⟨rfl, rfl, rfl⟩ fw_302 dX10_compare_208 ?_
                refine lv_aload_n hx hb dX10_compare_211 rfl (lv_at hl 4 rfl) ?_
                refine hk_geti hx hb hts hC_10 hown hW (gx.S hM) tt_10 11 (by decide) rfl kw_1154 ⟨rfl, rfl, rfl⟩ fw_303 dX10_compare_212 ?_
                refine lv_iadd hx hb dX10_compare_215 ?_
                have rg_332 := i32_r w_302
                have rg_333 := i32_r w_303
                refine lv_topi (fun x_334 ex_334 => ?_)
                have zx_334 : x_334.toInt = w_302.toInt + w_303.toInt := by rw [ex_334]; exact i32_add rfl rfl (by omega) (by omega)
                refine hx_puti hx hb hts hC_10 hown hW hT (hx_S.rf (M := [(10, 8)])) (gx.S hM) tt_10 8 (by decide) rfl kw_1151 ⟨rfl, rfl, rfl⟩ rfl (x := x_334) ⟨by omega, by omega⟩ rfl rfl rfl (List.mem_singleton.mpr rfl) dX10_compare_216 (fun H locs h_335 eh_335 hW hT hs => ?_)
                replace f_x_14 := (hs.o (gx.S hM) trivial rfl).1.trans f_x_14
                replace f_11 := (hs.o (gx.S hM) trivial rfl).1.trans f_11
                replace fw_303 := (hs.o (gx.S hM) trivial rfl).1.trans fw_303
                replace af_qs : h_335.2.1 qs = sf := (funext fun j => (hs.a (gqs.S hM) rfl j).1).trans af_qs
                replace hM := hM.tr (hs.mono (by decide))
                have f_336 : h_335.2.1 x 8 = x_334 := by rw [eh_335]; exact hx_pi_at _ _ _ _
                have hroom := hx_QQ_room hQ (n1 := x_334.toInt) (by omega) (by omega)
                refine lv_aload_n hx hb dX10_compare_219 rfl (lv_at hl 4 rfl) ?_
                refine lv_iload_n hx hb dX10_compare_220 rfl (lv_at hl 5 rfl) ?_
                refine lv_iconst (v := 3) hx hb dX10_compare_221 (by decide) ?_
                refine lv_isub hx hb dX10_compare_222 ?_
                have rg_337 := i32_r i1
                refine lv_topi (fun x_338 ex_338 => ?_)
                have zx_338 : x_338.toInt = i1.toInt - 3 := by rw [ex_338]; exact i32_sub rfl (by decide) (by omega) (by omega)
                refine lv_iload hx hb dX10_compare_223 (lv_at hl 1 rfl) ?_
                refine lv_sipush (v := 10000) hx hb dX10_compare_225 (by decide) ?_
                refine lv_iload hx hb dX10_compare_228 (lv_at hl 0 rfl) ?_
                refine lv_iadd hx hb dX10_compare_230 ?_
                have rg_339 := i32_r r_299
                refine lv_topi (fun x_340 ex_340 => ?_)
                have zx_340 : x_340.toInt = 10000 + r_299.toInt := by rw [ex_340]; exact i32_add (by decide) rfl (by omega) (by omega)
                refine lv_iconst (v := 3) hx hb dX10_compare_231 (by decide) ?_
                refine lv_isub hx hb dX10_compare_232 ?_
                have rg_341 := i32_r x_340
                refine lv_topi (fun x_342 ex_342 => ?_)
                have zx_342 : x_342.toInt = x_340.toInt - 3 := by rw [ex_342]; exact i32_sub rfl (by decide) (by omega) (by omega)
                have zc_4 : (4 : Int32).toInt = 4 := by decide
                refine hx_goi (hx_runS (As := [.int x_338, .int (4 : Int32), .int x_342]) (rest := [.ref x]) ⟨hx, hb, hml, hown, hts⟩ hW (t_X10_compareOf l dC dI dA L_304 h_335 H.size x_338 (4 : Int32) x_342 hT ⟨by omega, by omega⟩ (by decide) ⟨by omega, by omega⟩) (va_cwS 3 hts (hx_gS kw_1132 kw_1130 kw_1131 kw_103) rfl rfl rfl (by decide +kernel) ⟨Nat.le_of_ble_eq_true rfl, Nat.le_of_ble_eq_true rfl⟩) rfl hl.1 rfl (Nat.le_of_ble_eq_true rfl) dX10_compare_233 ⟨Nat.le_of_ble_eq_true rfl, Nat.le_of_ble_eq_true rfl⟩) hW (fun r_345 L_343 h_344 H locs p_346 hW => ?_)
                obtain ⟨hr_347, hT, hs⟩ := p_346
                replace hT : hx_T T_tb L_343 h_344 := hT
                replace hs : hx_S T_tb [] L_304 h_335 L_343 h_344 := hs
                replace f_x_14 := (hs.o (gx.S hM) trivial rfl).1.trans f_x_14
                replace f_11 := (hs.o (gx.S hM) trivial rfl).1.trans f_11
                replace fw_303 := (hs.o (gx.S hM) trivial rfl).1.trans fw_303
                replace f_336 := (hs.o (gx.S hM) trivial rfl).1.trans f_336
                replace af_qs : h_344.2.1 qs = sf := (funext fun j => (hs.a (gqs.S hM) rfl j).1).trans af_qs
                replace hM := hM.tr (hs.mono (by decide))
                refine hx_gov (hx_runV (As := [.int r_345]) (rest := []) ⟨hx, hb, hml, hown, hts⟩ hW (gx.S hM) tt_10 (T := TX10) (N := 98) rfl (t_X10_writes l dC dI dA L_343 h_344 H.size x r_345 hT (gx.S hM) qs (gqs.S hM) ((hM.o gx trivial rfl).2.trans f_x_15) sf af_qs st0 f_x_14 (by omega)) (cwV 1 hts (hx_gV kw_1138 kw_1135 kw_1137 kw_50 kw_103) rfl rfl rfl (by decide +kernel) ⟨Nat.le_of_ble_eq_true rfl, Nat.le_of_ble_eq_true rfl⟩) rfl hl.1 rfl (Nat.le_of_ble_eq_true rfl) dX10_compare_236 ⟨Nat.le_of_ble_eq_true rfl, Nat.le_of_ble_eq_true rfl⟩) hW (fun L_348 h_349 H locs p_351 hW => ?_)
                obtain ⟨⟨w_353, w_354, fw_353, fw_354, hr_352⟩, hT, hs⟩ := p_351
                replace hT : hx_T T_tb L_348 h_349 := hT
                replace hs : hx_S T_tb [(10, 14), (55, 0)] L_343 h_344 L_348 h_349 := hs
                replace f_11 := (hs.o (gx.S hM) trivial rfl).1.trans f_11
                replace fw_303 := (hs.o (gx.S hM) trivial rfl).1.trans fw_303
                replace f_336 := (hs.o (gx.S hM) trivial rfl).1.trans f_336
                replace hM := hM.tr (hs.mono (by decide))
                have fw_353 : h_349.2.1 x 14 = w_353 := fw_353
                have bw_353 := hT.gi (gx.S hM) tt_10 (k := 14) rfl
                rw [fw_353] at bw_353
                have bw_353 : 0 ≤ w_353.toInt ∧ w_353.toInt ≤ 128 := bw_353
                have fw_354 : h_349.2.1 qs = w_354 := fw_354
                refine lv_iconst (v := 1) hx hb dX10_compare_239 (by decide) ?_
                exact hx_retz hx hb hr rfl hlk hW ⟨⟨x_9, x_334, w_353, w_354, f_11, f_336, fw_353, fw_354, ⟨by decide, by omega, fun _ => hx_QQ_cmp hQ (by omega) (by omega) (by omega) hr_347 (hx_cl (by omega)) (by omega) hr_352.1 hr_352.2⟩⟩, hT, hM⟩ dX10_compare_240
            · skip
              refine lv_aload_n hx hb dX10_compare_119 rfl (lv_at hl 1 rfl) ?_
              refine hk_getr hx hb hts hC_10 hown hW (gx.S hM) tt_10 6 (by decide) rfl kw_1149 ⟨rfl, rfl, rfl⟩ ((hM.o gx trivial rfl).2.trans f_x_6) dX10_compare_120 ?_
              refine lv_aload_n hx hb dX10_compare_123 rfl (lv_at hl 1 rfl) ?_
              refine hk_geti hx hb hts hC_10 hown hW (gx.S hM) tt_10 8 (by decide) rfl kw_1151 ⟨rfl, rfl, rfl⟩ f_290 dX10_compare_124 ?_
              refine hx_bald hx hb hW hT (gqt.S hM) tt_53 rfl ⟨by omega, by omega⟩ dX10_compare_127 (fun x_355 ex_355 lx_355 ux_355 => ?_)
              have ax_355 : x_355 = tf x_288.toNatClampNeg := ex_355.trans (congrFun (hx_afS hM gqt rfl af_qt) _)
              refine lv_bipush (v := 61) hx hb dX10_compare_128 (by decide) ?_
              refine hb_icmp_ne (zx := x_355.toInt) (zy := 61) (tgt := 137) hx hb rfl (by decide) dX10_compare_130 (by decide) (fun c_356 => ?_) (fun c_356 => ?_)
              · skip
                refine lv_iconst (v := 0) hx hb dX10_compare_137 (by decide) ?_
                refine lv_istore_n (lv' := [(3, .int (0 : Int32)), (2, .int r_19), (0, .ref x), (1, .int i1)]) hx hb dX10_compare_138 rfl hl (by decide) rfl (fun ls hl => ?_)
                refine lv_iload_n hx hb dX10_compare_139 rfl (lv_at hl 0 rfl) ?_
                refine hb_if_eq (zx := 0) (tgt := 153) hx hb (by decide) dX10_compare_140 (by decide) (fun c_357 => ?_) (fun c_357 => absurd c_357 (by decide))
                refine lv_iload_n hx hb dX10_compare_153 rfl (lv_at hl 1 rfl) ?_
                refine lv_bipush (v := 60) hx hb dX10_compare_154 (by decide) ?_
                refine hb_icmp_ne (zx := r_19.toInt) (zy := 60) (tgt := 171) hx hb rfl (by decide) dX10_compare_156 (by decide) (fun c_358 => ?_) (fun c_358 => by exfalso; omega)
                refine lv_iload_n hx hb dX10_compare_171 rfl (lv_at hl 1 rfl) ?_
                refine lv_bipush (v := 61) hx hb dX10_compare_172 (by decide) ?_
                refine hb_icmp_ne (zx := r_19.toInt) (zy := 61) (tgt := 181) hx hb rfl (by decide) dX10_compare_174 (by decide) (fun c_359 => ?_) (fun c_359 => by exfalso; omega)
                refine lv_iload_n hx hb dX10_compare_181 rfl (lv_at hl 0 rfl) ?_
                refine hb_if_eq (zx := 0) (tgt := 189) hx hb (by decide) dX10_compare_182 (by decide) (fun c_360 => ?_) (fun c_360 => absurd c_360 (by decide))
                refine lv_iconst (v := 4) hx hb dX10_compare_189 (by decide) ?_
                refine lv_istore (lv' := [(4, .int (4 : Int32)), (3, .int (0 : Int32)), (2, .int r_19), (0, .ref x), (1, .int i1)]) hx hb dX10_compare_190 hl (by decide) rfl (fun ls hl => ?_)
                refine lv_aload_n hx hb dX10_compare_192 rfl (lv_at hl 3 rfl) ?_
                refine hx_goi (hx_runV (As := []) (rest := []) ⟨hx, hb, hml, hown, hts⟩ hW (gx.S hM) tt_10 (T := TX10) (N := 98) rfl (t_X10_wordHere l dC dI dA L_17 h_289 H.size x hT (gx.S hM) qt (gqt.S hM) ((hM.o gx trivial rfl).2.trans f_x_6) qw (gqw.S hM) ((hM.o gx trivial rfl).2.trans f_x_19) tf (hx_afS hM gqt rfl af_qt) wf (hx_afS hM gqw rfl af_qw) x_288 f_290 tp0 ((hM.o gx trivial rfl).1.trans f_x_7) hwd) (cwV 0 hts (hx_gV kw_1476 kw_1473 kw_1475 kw_55 kw_103) rfl rfl rfl (by decide +kernel) ⟨Nat.le_of_ble_eq_true rfl, Nat.le_of_ble_eq_true rfl⟩) rfl hl.1 rfl (Nat.le_of_ble_eq_true rfl) dX10_compare_193 ⟨Nat.le_of_ble_eq_true rfl, Nat.le_of_ble_eq_true rfl⟩) hW (fun r_363 L_361 h_362 H locs p_364 hW => ?_)
                obtain ⟨⟨w_366, w_367, fw_366, fw_367, hr_365⟩, hT, hs⟩ := p_364
                replace hT : hx_T T_tb L_361 h_362 := hT
                replace hs : hx_S T_tb [(10, 8), (10, 11)] L_17 h_289 L_361 h_362 := hs
                replace f_x_14 := (hs.o (gx.S hM) trivial rfl).1.trans f_x_14
                replace f_11 := (hs.o (gx.S hM) trivial rfl).1.trans f_11
                replace af_qs : h_362.2.1 qs = sf := (funext fun j => (hs.a (gqs.S hM) rfl j).1).trans af_qs
                replace ex_355 := ex_355.trans (hs.a (gqt.S hM) rfl _).1.symm
                replace hM := hM.tr (hs.mono (by decide))
                have fw_366 : h_362.2.1 x 8 = w_366 := fw_366
                have bw_366 := hT.gi (gx.S hM) tt_10 (k := 8) rfl
                rw [fw_366] at bw_366
                have bw_366 : 0 ≤ w_366.toInt ∧ w_366.toInt ≤ 402 := bw_366
                have fw_367 : h_362.2.1 x 11 = w_367 := fw_367
                have bw_367 := hT.gi (gx.S hM) tt_10 (k := 11) rfl
                rw [fw_367] at bw_367
                have bw_367 : 0 ≤ w_367.toInt ∧ w_367.toInt ≤ 400 := bw_367
                have hwa9 := And.intro hr_365.1 (And.intro (show w_366.toInt ≤ tp0.toInt by rcases hr_365.2.1 with q | q <;> omega) hr_365.2.2.1)
                have hwb9 := hr_365.2.2.2
                clear hr_365
                refine lv_istore (lv' := [(5, .int r_363), (4, .int (4 : Int32)), (3, .int (0 : Int32)), (2, .int r_19), (0, .ref x), (1, .int i1)]) hx hb dX10_compare_196 hl (by decide) rfl (fun ls hl => ?_)
                refine lv_iload hx hb dX10_compare_198 (lv_at hl 0 rfl) ?_
                refine hx_goi (hx_runS (As := [.int r_363]) (rest := []) ⟨hx, hb, hml, hown, hts⟩ hW (t_X10_isFact l dC dI dA L_361 h_362 H.size r_363 hT) (va_cwS 1 hts (hx_gS kw_1499 kw_1497 kw_1498 kw_103) rfl rfl rfl (by decide +kernel) ⟨Nat.le_of_ble_eq_true rfl, Nat.le_of_ble_eq_true rfl⟩) rfl hl.1 rfl (Nat.le_of_ble_eq_true rfl) dX10_compare_200 ⟨Nat.le_of_ble_eq_true rfl, Nat.le_of_ble_eq_true rfl⟩) hW (fun r_370 L_368 h_369 H locs p_371 hW => ?_)
                obtain ⟨hr_372, hT, hs⟩ := p_371
                replace hT : hx_T T_tb L_368 h_369 := hT
                replace hs : hx_S T_tb [] L_361 h_362 L_368 h_369 := hs
                replace f_x_14 := (hs.o (gx.S hM) trivial rfl).1.trans f_x_14
                replace f_11 := (hs.o (gx.S hM) trivial rfl).1.trans f_11
                replace fw_366 := (hs.o (gx.S hM) trivial rfl).1.trans fw_366
                replace fw_367 := (hs.o (gx.S hM) trivial rfl).1.trans fw_367
                replace af_qs : h_369.2.1 qs = sf := (funext fun j => (hs.a (gqs.S hM) rfl j).1).trans af_qs
                replace ex_355 := ex_355.trans (hs.a (gqt.S hM) rfl _).1.symm
                replace hM := hM.tr (hs.mono (by decide))
                refine hb_if_eq (zx := r_370.toInt) (tgt := 241) hx hb rfl dX10_compare_203 (by decide) (fun c_373 => ?_) (fun c_373 => ?_)
                · skip
                  replace hr_372 := hr_372.resolve_right (fun z9 => absurd (c_373.symm.trans z9.1) (by decide))
                  replace hr_372 := hr_372.2
                  clear hwb9 hr_372
                  refine lv_aload_n hx hb dX10_compare_241 rfl (lv_at hl 4 rfl) ?_
                  refine lv_iconst (v := 0) hx hb dX10_compare_242 (by decide) ?_
                  refine lv_sipush (v := 9999) hx hb dX10_compare_243 (by decide) ?_
                  have zc_9999 : (9999 : Int32).toInt = 9999 := by decide
                  have zc_0 : (0 : Int32).toInt = 0 := by decide
                  refine hx_goi (hx_runV (As := [.int (0 : Int32), .int (9999 : Int32)]) (rest := []) ⟨hx, hb, hml, hown, hts⟩ hW (gx.S hM) tt_10 (T := TX10) (N := 98) rfl (t_X10_number l dC dI dA L_368 h_369 H.size x (0 : Int32) (9999 : Int32) hT (gx.S hM) qt (gqt.S hM) ((hM.o gx trivial rfl).2.trans f_x_6) tf (hx_afS hM gqt rfl af_qt) w_366 fw_366 tp0 ((hM.o gx trivial rfl).1.trans f_x_7)) (cwV 2 hts (hx_gV kw_1503 kw_1500 kw_1502 kw_61 kw_103) rfl rfl rfl (by decide +kernel) ⟨Nat.le_of_ble_eq_true rfl, Nat.le_of_ble_eq_true rfl⟩) rfl hl.1 rfl (Nat.le_of_ble_eq_true rfl) dX10_compare_246 ⟨Nat.le_of_ble_eq_true rfl, Nat.le_of_ble_eq_true rfl⟩) hW (fun r_376 L_374 h_375 H locs p_377 hW => ?_)
                  obtain ⟨⟨w_379, w_380, fw_379, fw_380, hr_378⟩, hT, hs⟩ := p_377
                  replace hT : hx_T T_tb L_374 h_375 := hT
                  replace hs : hx_S T_tb [(10, 8), (10, 9), (10, 10)] L_368 h_369 L_374 h_375 := hs
                  replace f_x_14 := (hs.o (gx.S hM) trivial rfl).1.trans f_x_14
                  replace f_11 := (hs.o (gx.S hM) trivial rfl).1.trans f_11
                  replace fw_367 := (hs.o (gx.S hM) trivial rfl).1.trans fw_367
                  replace af_qs : h_375.2.1 qs = sf := (funext fun j => (hs.a (gqs.S hM) rfl j).1).trans af_qs
                  replace ex_355 := ex_355.trans (hs.a (gqt.S hM) rfl _).1.symm
                  replace hM := hM.tr (hs.mono (by decide))
                  have fw_379 : h_375.2.1 x 8 = w_379 := fw_379
                  have bw_379 := hT.gi (gx.S hM) tt_10 (k := 8) rfl
                  rw [fw_379] at bw_379
                  have bw_379 : 0 ≤ w_379.toInt ∧ w_379.toInt ≤ 402 := bw_379
                  have fw_380 : h_375.2.1 x 10 = w_380 := fw_380
                  have bw_380 := hT.gi (gx.S hM) tt_10 (k := 10) rfl
                  rw [fw_380] at bw_380
                  have bw_380 : 0 ≤ w_380.toInt ∧ w_380.toInt ≤ 9999 := bw_380
                  refine hb_if_ne (zx := r_376.toInt) (tgt := 254) hx hb rfl dX10_compare_249 (by decide) (fun c_381 => ?_) (fun c_381 => ?_)
                  · skip
                    have hnu9 := hr_378.2.2.2 (by rcases hr_378.1 with q | q <;> omega); clear hr_378
                    have hroom := hx_QQ_room hQ (n1 := w_379.toInt) (by omega) (by omega)
                    refine lv_aload_n hx hb dX10_compare_254 rfl (lv_at hl 4 rfl) ?_
                    refine lv_iload_n hx hb dX10_compare_255 rfl (lv_at hl 5 rfl) ?_
                    refine lv_iconst (v := 3) hx hb dX10_compare_256 (by decide) ?_
                    refine lv_isub hx hb dX10_compare_257 ?_
                    have rg_382 := i32_r i1
                    refine lv_topi (fun x_383 ex_383 => ?_)
                    have zx_383 : x_383.toInt = i1.toInt - 3 := by rw [ex_383]; exact i32_sub rfl (by decide) (by omega) (by omega)
                    refine lv_iload hx hb dX10_compare_258 (lv_at hl 1 rfl) ?_
                    refine lv_aload_n hx hb dX10_compare_260 rfl (lv_at hl 4 rfl) ?_
                    refine hk_geti hx hb hts hC_10 hown hW (gx.S hM) tt_10 10 (by decide) rfl kw_1153 ⟨rfl, rfl, rfl⟩ fw_380 dX10_compare_261 ?_
                    have zc_4 : (4 : Int32).toInt = 4 := by decide
                    refine hx_goi (hx_runS (As := [.int x_383, .int (4 : Int32), .int w_380]) (rest := [.ref x]) ⟨hx, hb, hml, hown, hts⟩ hW (t_X10_compareOf l dC dI dA L_374 h_375 H.size x_383 (4 : Int32) w_380 hT ⟨by omega, by omega⟩ (by decide) ⟨by omega, by omega⟩) (va_cwS 3 hts (hx_gS kw_1132 kw_1130 kw_1131 kw_103) rfl rfl rfl (by decide +kernel) ⟨Nat.le_of_ble_eq_true rfl, Nat.le_of_ble_eq_true rfl⟩) rfl hl.1 rfl (Nat.le_of_ble_eq_true rfl) dX10_compare_264 ⟨Nat.le_of_ble_eq_true rfl, Nat.le_of_ble_eq_true rfl⟩) hW (fun r_386 L_384 h_385 H locs p_387 hW => ?_)
                    obtain ⟨hr_388, hT, hs⟩ := p_387
                    replace hT : hx_T T_tb L_384 h_385 := hT
                    replace hs : hx_S T_tb [] L_374 h_375 L_384 h_385 := hs
                    replace f_x_14 := (hs.o (gx.S hM) trivial rfl).1.trans f_x_14
                    replace f_11 := (hs.o (gx.S hM) trivial rfl).1.trans f_11
                    replace fw_367 := (hs.o (gx.S hM) trivial rfl).1.trans fw_367
                    replace fw_379 := (hs.o (gx.S hM) trivial rfl).1.trans fw_379
                    replace fw_380 := (hs.o (gx.S hM) trivial rfl).1.trans fw_380
                    replace af_qs : h_385.2.1 qs = sf := (funext fun j => (hs.a (gqs.S hM) rfl j).1).trans af_qs
                    replace ex_355 := ex_355.trans (hs.a (gqt.S hM) rfl _).1.symm
                    replace hM := hM.tr (hs.mono (by decide))
                    refine hx_gov (hx_runV (As := [.int r_386]) (rest := []) ⟨hx, hb, hml, hown, hts⟩ hW (gx.S hM) tt_10 (T := TX10) (N := 98) rfl (t_X10_writes l dC dI dA L_384 h_385 H.size x r_386 hT (gx.S hM) qs (gqs.S hM) ((hM.o gx trivial rfl).2.trans f_x_15) sf af_qs st0 f_x_14 (by omega)) (cwV 1 hts (hx_gV kw_1138 kw_1135 kw_1137 kw_50 kw_103) rfl rfl rfl (by decide +kernel) ⟨Nat.le_of_ble_eq_true rfl, Nat.le_of_ble_eq_true rfl⟩) rfl hl.1 rfl (Nat.le_of_ble_eq_true rfl) dX10_compare_267 ⟨Nat.le_of_ble_eq_true rfl, Nat.le_of_ble_eq_true rfl⟩) hW (fun L_389 h_390 H locs p_392 hW => ?_)
                    obtain ⟨⟨w_394, w_395, fw_394, fw_395, hr_393⟩, hT, hs⟩ := p_392
                    replace hT : hx_T T_tb L_389 h_390 := hT
                    replace hs : hx_S T_tb [(10, 14), (55, 0)] L_384 h_385 L_389 h_390 := hs
                    replace f_11 := (hs.o (gx.S hM) trivial rfl).1.trans f_11
                    replace fw_367 := (hs.o (gx.S hM) trivial rfl).1.trans fw_367
                    replace fw_379 := (hs.o (gx.S hM) trivial rfl).1.trans fw_379
                    replace fw_380 := (hs.o (gx.S hM) trivial rfl).1.trans fw_380
                    replace ex_355 := ex_355.trans (hs.a (gqt.S hM) rfl _).1.symm
                    replace hM := hM.tr (hs.mono (by decide))
                    have fw_394 : h_390.2.1 x 14 = w_394 := fw_394
                    have bw_394 := hT.gi (gx.S hM) tt_10 (k := 14) rfl
                    rw [fw_394] at bw_394
                    have bw_394 : 0 ≤ w_394.toInt ∧ w_394.toInt ≤ 128 := bw_394
                    have fw_395 : h_390.2.1 qs = w_395 := fw_395
                    refine lv_iconst (v := 1) hx hb dX10_compare_270 (by decide) ?_
                    exact hx_retz hx hb hr rfl hlk hW ⟨⟨x_9, w_379, w_394, w_395, f_11, fw_379, fw_394, fw_395, ⟨by decide, by omega, fun _ => hx_QQ_cmp hQ (by omega) (by omega) (by omega) hr_388 (hx_cl (by omega)) (by omega) hr_393.1 hr_393.2⟩⟩, hT, hM⟩ dX10_compare_271
                  · skip
                    have hnu9 := hr_378.2.1; clear hr_378
                    refine lv_iconst (v := 0) hx hb dX10_compare_252 (by decide) ?_
                    exact hx_retz hx hb hr rfl hlk hW ⟨⟨x_9, w_379, st0, sf, f_11, fw_379, f_x_14, af_qs, ⟨by decide, by omega, fun z => absurd z (by decide)⟩⟩, hT, hM⟩ dX10_compare_253
                · skip
                  replace hr_372 := hr_372.resolve_left (fun z9 => c_373 z9.1)
                  replace c_373 := hr_372.1
                  replace hr_372 := hr_372.2
                  have hwc9 : 3 ≤ r_363.toInt ∧ r_363.toInt ≤ 10 := by clear hwb9; omega
                  clear hr_372
                  have hwd9 : w_366.toInt + w_367.toInt ≤ tp0.toInt ∧ 3 ≤ w_367.toInt := by rcases hwb9 with q | ⟨_, _, q1, _, _, _, _, q2, _⟩; (exfalso; omega); exact ⟨q1, q2 hwc9⟩
                  clear hwb9
                  refine lv_aload_n hx hb dX10_compare_206 rfl (lv_at hl 4 rfl) ?_
                  refine lv_dup hx hb dX10_compare_207 rfl ?_
                  refine hk_geti hx hb hts hC_10 hown hW (gx.S hM) tt_10 8 (by decide) rfl kw_1151 ⟨rfl, rfl, rfl⟩ fw_366 dX10_compare_208 ?_
                  refine lv_aload_n hx hb dX10_compare_211 rfl (lv_at hl 4 rfl) ?_
                  refine hk_geti hx hb hts hC_10 hown hW (gx.S hM) tt_10 11 (by decide) rfl kw_1154 ⟨rfl, rfl, rfl⟩ fw_367 dX10_compare_212 ?_
                  refine lv_iadd hx hb dX10_compare_215 ?_
                  have rg_396 := i32_r w_366
                  have rg_397 := i32_r w_367
                  refine lv_topi (fun x_398 ex_398 => ?_)
                  have zx_398 : x_398.toInt = w_366.toInt + w_367.toInt := by rw [ex_398]; exact i32_add rfl rfl (by omega) (by omega)
                  refine hx_puti hx hb hts hC_10 hown hW hT (hx_S.rf (M := [(10, 8)])) (gx.S hM) tt_10 8 (by decide) rfl kw_1151 ⟨rfl, rfl, rfl⟩ rfl (x := x_398) ⟨by omega, by omega⟩ rfl rfl rfl (List.mem_singleton.mpr rfl) dX10_compare_216 (fun H locs h_399 eh_399 hW hT hs => ?_)
                  replace f_x_14 := (hs.o (gx.S hM) trivial rfl).1.trans f_x_14
                  replace f_11 := (hs.o (gx.S hM) trivial rfl).1.trans f_11
                  replace fw_367 := (hs.o (gx.S hM) trivial rfl).1.trans fw_367
                  replace af_qs : h_399.2.1 qs = sf := (funext fun j => (hs.a (gqs.S hM) rfl j).1).trans af_qs
                  replace ex_355 := ex_355.trans (hs.a (gqt.S hM) rfl _).1.symm
                  replace hM := hM.tr (hs.mono (by decide))
                  have f_400 : h_399.2.1 x 8 = x_398 := by rw [eh_399]; exact hx_pi_at _ _ _ _
                  have hroom := hx_QQ_room hQ (n1 := x_398.toInt) (by omega) (by omega)
                  refine lv_aload_n hx hb dX10_compare_219 rfl (lv_at hl 4 rfl) ?_
                  refine lv_iload_n hx hb dX10_compare_220 rfl (lv_at hl 5 rfl) ?_
                  refine lv_iconst (v := 3) hx hb dX10_compare_221 (by decide) ?_
                  refine lv_isub hx hb dX10_compare_222 ?_
                  have rg_401 := i32_r i1
                  refine lv_topi (fun x_402 ex_402 => ?_)
                  have zx_402 : x_402.toInt = i1.toInt - 3 := by rw [ex_402]; exact i32_sub rfl (by decide) (by omega) (by omega)
                  refine lv_iload hx hb dX10_compare_223 (lv_at hl 1 rfl) ?_
                  refine lv_sipush (v := 10000) hx hb dX10_compare_225 (by decide) ?_
                  refine lv_iload hx hb dX10_compare_228 (lv_at hl 0 rfl) ?_
                  refine lv_iadd hx hb dX10_compare_230 ?_
                  have rg_403 := i32_r r_363
                  refine lv_topi (fun x_404 ex_404 => ?_)
                  have zx_404 : x_404.toInt = 10000 + r_363.toInt := by rw [ex_404]; exact i32_add (by decide) rfl (by omega) (by omega)
                  refine lv_iconst (v := 3) hx hb dX10_compare_231 (by decide) ?_
                  refine lv_isub hx hb dX10_compare_232 ?_
                  have rg_405 := i32_r x_404
                  refine lv_topi (fun x_406 ex_406 => ?_)
                  have zx_406 : x_406.toInt = x_404.toInt - 3 := by rw [ex_406]; exact i32_sub rfl (by decide) (by omega) (by omega)
                  have zc_4 : (4 : Int32).toInt = 4 := by decide
                  refine hx_goi (hx_runS (As := [.int x_402, .int (4 : Int32), .int x_406]) (rest := [.ref x]) ⟨hx, hb, hml, hown, hts⟩ hW (t_X10_compareOf l dC dI dA L_368 h_399 H.size x_402 (4 : Int32) x_406 hT ⟨by omega, by omega⟩ (by decide) ⟨by omega, by omega⟩) (va_cwS 3 hts (hx_gS kw_1132 kw_1130 kw_1131 kw_103) rfl rfl rfl (by decide +kernel) ⟨Nat.le_of_ble_eq_true rfl, Nat.le_of_ble_eq_true rfl⟩) rfl hl.1 rfl (Nat.le_of_ble_eq_true rfl) dX10_compare_233 ⟨Nat.le_of_ble_eq_true rfl, Nat.le_of_ble_eq_true rfl⟩) hW (fun r_409 L_407 h_408 H locs p_410 hW => ?_)
                  obtain ⟨hr_411, hT, hs⟩ := p_410
                  replace hT : hx_T T_tb L_407 h_408 := hT
                  replace hs : hx_S T_tb [] L_368 h_399 L_407 h_408 := hs
                  replace f_x_14 := (hs.o (gx.S hM) trivial rfl).1.trans f_x_14
                  replace f_11 := (hs.o (gx.S hM) trivial rfl).1.trans f_11
                  replace fw_367 := (hs.o (gx.S hM) trivial rfl).1.trans fw_367
                  replace f_400 := (hs.o (gx.S hM) trivial rfl).1.trans f_400
                  replace af_qs : h_408.2.1 qs = sf := (funext fun j => (hs.a (gqs.S hM) rfl j).1).trans af_qs
                  replace ex_355 := ex_355.trans (hs.a (gqt.S hM) rfl _).1.symm
                  replace hM := hM.tr (hs.mono (by decide))
                  refine hx_gov (hx_runV (As := [.int r_409]) (rest := []) ⟨hx, hb, hml, hown, hts⟩ hW (gx.S hM) tt_10 (T := TX10) (N := 98) rfl (t_X10_writes l dC dI dA L_407 h_408 H.size x r_409 hT (gx.S hM) qs (gqs.S hM) ((hM.o gx trivial rfl).2.trans f_x_15) sf af_qs st0 f_x_14 (by omega)) (cwV 1 hts (hx_gV kw_1138 kw_1135 kw_1137 kw_50 kw_103) rfl rfl rfl (by decide +kernel) ⟨Nat.le_of_ble_eq_true rfl, Nat.le_of_ble_eq_true rfl⟩) rfl hl.1 rfl (Nat.le_of_ble_eq_true rfl) dX10_compare_236 ⟨Nat.le_of_ble_eq_true rfl, Nat.le_of_ble_eq_true rfl⟩) hW (fun L_412 h_413 H locs p_415 hW => ?_)
                  obtain ⟨⟨w_417, w_418, fw_417, fw_418, hr_416⟩, hT, hs⟩ := p_415
                  replace hT : hx_T T_tb L_412 h_413 := hT
                  replace hs : hx_S T_tb [(10, 14), (55, 0)] L_407 h_408 L_412 h_413 := hs
                  replace f_11 := (hs.o (gx.S hM) trivial rfl).1.trans f_11
                  replace fw_367 := (hs.o (gx.S hM) trivial rfl).1.trans fw_367
                  replace f_400 := (hs.o (gx.S hM) trivial rfl).1.trans f_400
                  replace ex_355 := ex_355.trans (hs.a (gqt.S hM) rfl _).1.symm
                  replace hM := hM.tr (hs.mono (by decide))
                  have fw_417 : h_413.2.1 x 14 = w_417 := fw_417
                  have bw_417 := hT.gi (gx.S hM) tt_10 (k := 14) rfl
                  rw [fw_417] at bw_417
                  have bw_417 : 0 ≤ w_417.toInt ∧ w_417.toInt ≤ 128 := bw_417
                  have fw_418 : h_413.2.1 qs = w_418 := fw_418
                  refine lv_iconst (v := 1) hx hb dX10_compare_239 (by decide) ?_
                  exact hx_retz hx hb hr rfl hlk hW ⟨⟨x_9, x_398, w_417, w_418, f_11, f_400, fw_417, fw_418, ⟨by decide, by omega, fun _ => hx_QQ_cmp hQ (by omega) (by omega) (by omega) hr_411 (hx_cl (by omega)) (by omega) hr_416.1 hr_416.2⟩⟩, hT, hM⟩ dX10_compare_240
              · skip
                refine lv_iconst (v := 1) hx hb dX10_compare_133 (by decide) ?_
                refine lv_goto (tgt := 138) hx hb dX10_compare_134 (by decide) ?_
                refine lv_istore_n (lv' := [(3, .int (1 : Int32)), (2, .int r_19), (0, .ref x), (1, .int i1)]) hx hb dX10_compare_138 rfl hl (by decide) rfl (fun ls hl => ?_)
                refine lv_iload_n hx hb dX10_compare_139 rfl (lv_at hl 0 rfl) ?_
                refine hb_if_eq (zx := 1) (tgt := 153) hx hb (by decide) dX10_compare_140 (by decide) (fun c_419 => absurd c_419 (by decide)) (fun c_419 => ?_)
                refine lv_aload_n hx hb dX10_compare_143 rfl (lv_at hl 2 rfl) ?_
                refine lv_dup hx hb dX10_compare_144 rfl ?_
                refine hk_geti hx hb hts hC_10 hown hW (gx.S hM) tt_10 8 (by decide) rfl kw_1151 ⟨rfl, rfl, rfl⟩ f_290 dX10_compare_145 ?_
                refine lv_iconst (v := 1) hx hb dX10_compare_148 (by decide) ?_
                refine lv_iadd hx hb dX10_compare_149 ?_
                have rg_420 := i32_r x_288
                refine lv_topi (fun x_421 ex_421 => ?_)
                have zx_421 : x_421.toInt = x_288.toInt + 1 := by rw [ex_421]; exact i32_add rfl (by decide) (by omega) (by omega)
                refine hx_puti hx hb hts hC_10 hown hW hT (hx_S.rf (M := [(10, 8)])) (gx.S hM) tt_10 8 (by decide) rfl kw_1151 ⟨rfl, rfl, rfl⟩ rfl (x := x_421) ⟨by omega, by omega⟩ rfl rfl rfl (List.mem_singleton.mpr rfl) dX10_compare_150 (fun H locs h_422 eh_422 hW hT hs => ?_)
                replace f_x_14 := (hs.o (gx.S hM) trivial rfl).1.trans f_x_14
                replace f_x_11 := (hs.o (gx.S hM) trivial rfl).1.trans f_x_11
                replace f_11 := (hs.o (gx.S hM) trivial rfl).1.trans f_11
                replace af_qs : h_422.2.1 qs = sf := (funext fun j => (hs.a (gqs.S hM) rfl j).1).trans af_qs
                replace ex_355 := ex_355.trans (hs.a (gqt.S hM) rfl _).1.symm
                replace hM := hM.tr (hs.mono (by decide))
                have f_423 : h_422.2.1 x 8 = x_421 := by rw [eh_422]; exact hx_pi_at _ _ _ _
                refine lv_iload_n hx hb dX10_compare_153 rfl (lv_at hl 1 rfl) ?_
                refine lv_bipush (v := 60) hx hb dX10_compare_154 (by decide) ?_
                refine hb_icmp_ne (zx := r_19.toInt) (zy := 60) (tgt := 171) hx hb rfl (by decide) dX10_compare_156 (by decide) (fun c_424 => ?_) (fun c_424 => by exfalso; omega)
                refine lv_iload_n hx hb dX10_compare_171 rfl (lv_at hl 1 rfl) ?_
                refine lv_bipush (v := 61) hx hb dX10_compare_172 (by decide) ?_
                refine hb_icmp_ne (zx := r_19.toInt) (zy := 61) (tgt := 181) hx hb rfl (by decide) dX10_compare_174 (by decide) (fun c_425 => ?_) (fun c_425 => by exfalso; omega)
                refine lv_iload_n hx hb dX10_compare_181 rfl (lv_at hl 0 rfl) ?_
                refine hb_if_eq (zx := 1) (tgt := 189) hx hb (by decide) dX10_compare_182 (by decide) (fun c_426 => absurd c_426 (by decide)) (fun c_426 => ?_)
                refine lv_iconst (v := 3) hx hb dX10_compare_185 (by decide) ?_
                refine lv_goto (tgt := 190) hx hb dX10_compare_186 (by decide) ?_
                refine lv_istore (lv' := [(4, .int (3 : Int32)), (3, .int (1 : Int32)), (2, .int r_19), (0, .ref x), (1, .int i1)]) hx hb dX10_compare_190 hl (by decide) rfl (fun ls hl => ?_)
                refine lv_aload_n hx hb dX10_compare_192 rfl (lv_at hl 3 rfl) ?_
                refine hx_goi (hx_runV (As := []) (rest := []) ⟨hx, hb, hml, hown, hts⟩ hW (gx.S hM) tt_10 (T := TX10) (N := 98) rfl (t_X10_wordHere l dC dI dA L_17 h_422 H.size x hT (gx.S hM) qt (gqt.S hM) ((hM.o gx trivial rfl).2.trans f_x_6) qw (gqw.S hM) ((hM.o gx trivial rfl).2.trans f_x_19) tf (hx_afS hM gqt rfl af_qt) wf (hx_afS hM gqw rfl af_qw) x_421 f_423 tp0 ((hM.o gx trivial rfl).1.trans f_x_7) hwd) (cwV 0 hts (hx_gV kw_1476 kw_1473 kw_1475 kw_55 kw_103) rfl rfl rfl (by decide +kernel) ⟨Nat.le_of_ble_eq_true rfl, Nat.le_of_ble_eq_true rfl⟩) rfl hl.1 rfl (Nat.le_of_ble_eq_true rfl) dX10_compare_193 ⟨Nat.le_of_ble_eq_true rfl, Nat.le_of_ble_eq_true rfl⟩) hW (fun r_429 L_427 h_428 H locs p_430 hW => ?_)
                obtain ⟨⟨w_432, w_433, fw_432, fw_433, hr_431⟩, hT, hs⟩ := p_430
                replace hT : hx_T T_tb L_427 h_428 := hT
                replace hs : hx_S T_tb [(10, 8), (10, 11)] L_17 h_422 L_427 h_428 := hs
                replace f_x_14 := (hs.o (gx.S hM) trivial rfl).1.trans f_x_14
                replace f_11 := (hs.o (gx.S hM) trivial rfl).1.trans f_11
                replace af_qs : h_428.2.1 qs = sf := (funext fun j => (hs.a (gqs.S hM) rfl j).1).trans af_qs
                replace ex_355 := ex_355.trans (hs.a (gqt.S hM) rfl _).1.symm
                replace hM := hM.tr (hs.mono (by decide))
                have fw_432 : h_428.2.1 x 8 = w_432 := fw_432
                have bw_432 := hT.gi (gx.S hM) tt_10 (k := 8) rfl
                rw [fw_432] at bw_432
                have bw_432 : 0 ≤ w_432.toInt ∧ w_432.toInt ≤ 402 := bw_432
                have fw_433 : h_428.2.1 x 11 = w_433 := fw_433
                have bw_433 := hT.gi (gx.S hM) tt_10 (k := 11) rfl
                rw [fw_433] at bw_433
                have bw_433 : 0 ≤ w_433.toInt ∧ w_433.toInt ≤ 400 := bw_433
                have hwa9 := And.intro hr_431.1 (And.intro (show w_432.toInt ≤ tp0.toInt by rcases hr_431.2.1 with q | q <;> omega) hr_431.2.2.1)
                have hwb9 := hr_431.2.2.2
                clear hr_431
                refine lv_istore (lv' := [(5, .int r_429), (4, .int (3 : Int32)), (3, .int (1 : Int32)), (2, .int r_19), (0, .ref x), (1, .int i1)]) hx hb dX10_compare_196 hl (by decide) rfl (fun ls hl => ?_)
                refine lv_iload hx hb dX10_compare_198 (lv_at hl 0 rfl) ?_
                refine hx_goi (hx_runS (As := [.int r_429]) (rest := []) ⟨hx, hb, hml, hown, hts⟩ hW (t_X10_isFact l dC dI dA L_427 h_428 H.size r_429 hT) (va_cwS 1 hts (hx_gS kw_1499 kw_1497 kw_1498 kw_103) rfl rfl rfl (by decide +kernel) ⟨Nat.le_of_ble_eq_true rfl, Nat.le_of_ble_eq_true rfl⟩) rfl hl.1 rfl (Nat.le_of_ble_eq_true rfl) dX10_compare_200 ⟨Nat.le_of_ble_eq_true rfl, Nat.le_of_ble_eq_true rfl⟩) hW (fun r_436 L_434 h_435 H locs p_437 hW => ?_)
                obtain ⟨hr_438, hT, hs⟩ := p_437
                replace hT : hx_T T_tb L_434 h_435 := hT
                replace hs : hx_S T_tb [] L_427 h_428 L_434 h_435 := hs
                replace f_x_14 := (hs.o (gx.S hM) trivial rfl).1.trans f_x_14
                replace f_11 := (hs.o (gx.S hM) trivial rfl).1.trans f_11
                replace fw_432 := (hs.o (gx.S hM) trivial rfl).1.trans fw_432
                replace fw_433 := (hs.o (gx.S hM) trivial rfl).1.trans fw_433
                replace af_qs : h_435.2.1 qs = sf := (funext fun j => (hs.a (gqs.S hM) rfl j).1).trans af_qs
                replace ex_355 := ex_355.trans (hs.a (gqt.S hM) rfl _).1.symm
                replace hM := hM.tr (hs.mono (by decide))
                refine hb_if_eq (zx := r_436.toInt) (tgt := 241) hx hb rfl dX10_compare_203 (by decide) (fun c_439 => ?_) (fun c_439 => ?_)
                · skip
                  replace hr_438 := hr_438.resolve_right (fun z9 => absurd (c_439.symm.trans z9.1) (by decide))
                  replace hr_438 := hr_438.2
                  clear hwb9 hr_438
                  refine lv_aload_n hx hb dX10_compare_241 rfl (lv_at hl 4 rfl) ?_
                  refine lv_iconst (v := 0) hx hb dX10_compare_242 (by decide) ?_
                  refine lv_sipush (v := 9999) hx hb dX10_compare_243 (by decide) ?_
                  have zc_9999 : (9999 : Int32).toInt = 9999 := by decide
                  have zc_0 : (0 : Int32).toInt = 0 := by decide
                  refine hx_goi (hx_runV (As := [.int (0 : Int32), .int (9999 : Int32)]) (rest := []) ⟨hx, hb, hml, hown, hts⟩ hW (gx.S hM) tt_10 (T := TX10) (N := 98) rfl (t_X10_number l dC dI dA L_434 h_435 H.size x (0 : Int32) (9999 : Int32) hT (gx.S hM) qt (gqt.S hM) ((hM.o gx trivial rfl).2.trans f_x_6) tf (hx_afS hM gqt rfl af_qt) w_432 fw_432 tp0 ((hM.o gx trivial rfl).1.trans f_x_7)) (cwV 2 hts (hx_gV kw_1503 kw_1500 kw_1502 kw_61 kw_103) rfl rfl rfl (by decide +kernel) ⟨Nat.le_of_ble_eq_true rfl, Nat.le_of_ble_eq_true rfl⟩) rfl hl.1 rfl (Nat.le_of_ble_eq_true rfl) dX10_compare_246 ⟨Nat.le_of_ble_eq_true rfl, Nat.le_of_ble_eq_true rfl⟩) hW (fun r_442 L_440 h_441 H locs p_443 hW => ?_)
                  obtain ⟨⟨w_445, w_446, fw_445, fw_446, hr_444⟩, hT, hs⟩ := p_443
                  replace hT : hx_T T_tb L_440 h_441 := hT
                  replace hs : hx_S T_tb [(10, 8), (10, 9), (10, 10)] L_434 h_435 L_440 h_441 := hs
                  replace f_x_14 := (hs.o (gx.S hM) trivial rfl).1.trans f_x_14
                  replace f_11 := (hs.o (gx.S hM) trivial rfl).1.trans f_11
                  replace fw_433 := (hs.o (gx.S hM) trivial rfl).1.trans fw_433
                  replace af_qs : h_441.2.1 qs = sf := (funext fun j => (hs.a (gqs.S hM) rfl j).1).trans af_qs
                  replace ex_355 := ex_355.trans (hs.a (gqt.S hM) rfl _).1.symm
                  replace hM := hM.tr (hs.mono (by decide))
                  have fw_445 : h_441.2.1 x 8 = w_445 := fw_445
                  have bw_445 := hT.gi (gx.S hM) tt_10 (k := 8) rfl
                  rw [fw_445] at bw_445
                  have bw_445 : 0 ≤ w_445.toInt ∧ w_445.toInt ≤ 402 := bw_445
                  have fw_446 : h_441.2.1 x 10 = w_446 := fw_446
                  have bw_446 := hT.gi (gx.S hM) tt_10 (k := 10) rfl
                  rw [fw_446] at bw_446
                  have bw_446 : 0 ≤ w_446.toInt ∧ w_446.toInt ≤ 9999 := bw_446
                  refine hb_if_ne (zx := r_442.toInt) (tgt := 254) hx hb rfl dX10_compare_249 (by decide) (fun c_447 => ?_) (fun c_447 => ?_)
                  · skip
                    have hnu9 := hr_444.2.2.2 (by rcases hr_444.1 with q | q <;> omega); clear hr_444
                    have hroom := hx_QQ_room hQ (n1 := w_445.toInt) (by omega) (by omega)
                    refine lv_aload_n hx hb dX10_compare_254 rfl (lv_at hl 4 rfl) ?_
                    refine lv_iload_n hx hb dX10_compare_255 rfl (lv_at hl 5 rfl) ?_
                    refine lv_iconst (v := 3) hx hb dX10_compare_256 (by decide) ?_
                    refine lv_isub hx hb dX10_compare_257 ?_
                    have rg_448 := i32_r i1
                    refine lv_topi (fun x_449 ex_449 => ?_)
                    have zx_449 : x_449.toInt = i1.toInt - 3 := by rw [ex_449]; exact i32_sub rfl (by decide) (by omega) (by omega)
                    refine lv_iload hx hb dX10_compare_258 (lv_at hl 1 rfl) ?_
                    refine lv_aload_n hx hb dX10_compare_260 rfl (lv_at hl 4 rfl) ?_
                    refine hk_geti hx hb hts hC_10 hown hW (gx.S hM) tt_10 10 (by decide) rfl kw_1153 ⟨rfl, rfl, rfl⟩ fw_446 dX10_compare_261 ?_
                    have zc_3 : (3 : Int32).toInt = 3 := by decide
                    refine hx_goi (hx_runS (As := [.int x_449, .int (3 : Int32), .int w_446]) (rest := [.ref x]) ⟨hx, hb, hml, hown, hts⟩ hW (t_X10_compareOf l dC dI dA L_440 h_441 H.size x_449 (3 : Int32) w_446 hT ⟨by omega, by omega⟩ (by decide) ⟨by omega, by omega⟩) (va_cwS 3 hts (hx_gS kw_1132 kw_1130 kw_1131 kw_103) rfl rfl rfl (by decide +kernel) ⟨Nat.le_of_ble_eq_true rfl, Nat.le_of_ble_eq_true rfl⟩) rfl hl.1 rfl (Nat.le_of_ble_eq_true rfl) dX10_compare_264 ⟨Nat.le_of_ble_eq_true rfl, Nat.le_of_ble_eq_true rfl⟩) hW (fun r_452 L_450 h_451 H locs p_453 hW => ?_)
                    obtain ⟨hr_454, hT, hs⟩ := p_453
                    replace hT : hx_T T_tb L_450 h_451 := hT
                    replace hs : hx_S T_tb [] L_440 h_441 L_450 h_451 := hs
                    replace f_x_14 := (hs.o (gx.S hM) trivial rfl).1.trans f_x_14
                    replace f_11 := (hs.o (gx.S hM) trivial rfl).1.trans f_11
                    replace fw_433 := (hs.o (gx.S hM) trivial rfl).1.trans fw_433
                    replace fw_445 := (hs.o (gx.S hM) trivial rfl).1.trans fw_445
                    replace fw_446 := (hs.o (gx.S hM) trivial rfl).1.trans fw_446
                    replace af_qs : h_451.2.1 qs = sf := (funext fun j => (hs.a (gqs.S hM) rfl j).1).trans af_qs
                    replace ex_355 := ex_355.trans (hs.a (gqt.S hM) rfl _).1.symm
                    replace hM := hM.tr (hs.mono (by decide))
                    refine hx_gov (hx_runV (As := [.int r_452]) (rest := []) ⟨hx, hb, hml, hown, hts⟩ hW (gx.S hM) tt_10 (T := TX10) (N := 98) rfl (t_X10_writes l dC dI dA L_450 h_451 H.size x r_452 hT (gx.S hM) qs (gqs.S hM) ((hM.o gx trivial rfl).2.trans f_x_15) sf af_qs st0 f_x_14 (by omega)) (cwV 1 hts (hx_gV kw_1138 kw_1135 kw_1137 kw_50 kw_103) rfl rfl rfl (by decide +kernel) ⟨Nat.le_of_ble_eq_true rfl, Nat.le_of_ble_eq_true rfl⟩) rfl hl.1 rfl (Nat.le_of_ble_eq_true rfl) dX10_compare_267 ⟨Nat.le_of_ble_eq_true rfl, Nat.le_of_ble_eq_true rfl⟩) hW (fun L_455 h_456 H locs p_458 hW => ?_)
                    obtain ⟨⟨w_460, w_461, fw_460, fw_461, hr_459⟩, hT, hs⟩ := p_458
                    replace hT : hx_T T_tb L_455 h_456 := hT
                    replace hs : hx_S T_tb [(10, 14), (55, 0)] L_450 h_451 L_455 h_456 := hs
                    replace f_11 := (hs.o (gx.S hM) trivial rfl).1.trans f_11
                    replace fw_433 := (hs.o (gx.S hM) trivial rfl).1.trans fw_433
                    replace fw_445 := (hs.o (gx.S hM) trivial rfl).1.trans fw_445
                    replace fw_446 := (hs.o (gx.S hM) trivial rfl).1.trans fw_446
                    replace ex_355 := ex_355.trans (hs.a (gqt.S hM) rfl _).1.symm
                    replace hM := hM.tr (hs.mono (by decide))
                    have fw_460 : h_456.2.1 x 14 = w_460 := fw_460
                    have bw_460 := hT.gi (gx.S hM) tt_10 (k := 14) rfl
                    rw [fw_460] at bw_460
                    have bw_460 : 0 ≤ w_460.toInt ∧ w_460.toInt ≤ 128 := bw_460
                    have fw_461 : h_456.2.1 qs = w_461 := fw_461
                    refine lv_iconst (v := 1) hx hb dX10_compare_270 (by decide) ?_
                    exact hx_retz hx hb hr rfl hlk hW ⟨⟨x_9, w_445, w_460, w_461, f_11, fw_445, fw_460, fw_461, ⟨by decide, by omega, fun _ => hx_QQ_cmp hQ (by omega) (by omega) (by omega) hr_454 (hx_cl (by omega)) (by omega) hr_459.1 hr_459.2⟩⟩, hT, hM⟩ dX10_compare_271
                  · skip
                    have hnu9 := hr_444.2.1; clear hr_444
                    refine lv_iconst (v := 0) hx hb dX10_compare_252 (by decide) ?_
                    exact hx_retz hx hb hr rfl hlk hW ⟨⟨x_9, w_445, st0, sf, f_11, fw_445, f_x_14, af_qs, ⟨by decide, by omega, fun z => absurd z (by decide)⟩⟩, hT, hM⟩ dX10_compare_253
                · skip
                  replace hr_438 := hr_438.resolve_left (fun z9 => c_439 z9.1)
                  replace c_439 := hr_438.1
                  replace hr_438 := hr_438.2
                  have hwc9 : 3 ≤ r_429.toInt ∧ r_429.toInt ≤ 10 := by clear hwb9; omega
                  clear hr_438
                  have hwd9 : w_432.toInt + w_433.toInt ≤ tp0.toInt ∧ 3 ≤ w_433.toInt := by rcases hwb9 with q | ⟨_, _, q1, _, _, _, _, q2, _⟩; (exfalso; omega); exact ⟨q1, q2 hwc9⟩
                  clear hwb9
                  refine lv_aload_n hx hb dX10_compare_206 rfl (lv_at hl 4 rfl) ?_
                  refine lv_dup hx hb dX10_compare_207 rfl ?_
                  refine hk_geti hx hb hts hC_10 hown hW (gx.S hM) tt_10 8 (by decide) rfl kw_1151 ⟨rfl, rfl, rfl⟩ fw_432 dX10_compare_208 ?_
                  refine lv_aload_n hx hb dX10_compare_211 rfl (lv_at hl 4 rfl) ?_
                  refine hk_geti hx hb hts hC_10 hown hW (gx.S hM) tt_10 11 (by decide) rfl kw_1154 ⟨rfl, rfl, rfl⟩ fw_433 dX10_compare_212 ?_
                  refine lv_iadd hx hb dX10_compare_215 ?_
                  have rg_462 := i32_r w_432
                  have rg_463 := i32_r w_433
                  refine lv_topi (fun x_464 ex_464 => ?_)
                  have zx_464 : x_464.toInt = w_432.toInt + w_433.toInt := by rw [ex_464]; exact i32_add rfl rfl (by omega) (by omega)
                  refine hx_puti hx hb hts hC_10 hown hW hT (hx_S.rf (M := [(10, 8)])) (gx.S hM) tt_10 8 (by decide) rfl kw_1151 ⟨rfl, rfl, rfl⟩ rfl (x := x_464) ⟨by omega, by omega⟩ rfl rfl rfl (List.mem_singleton.mpr rfl) dX10_compare_216 (fun H locs h_465 eh_465 hW hT hs => ?_)
                  replace f_x_14 := (hs.o (gx.S hM) trivial rfl).1.trans f_x_14
                  replace f_11 := (hs.o (gx.S hM) trivial rfl).1.trans f_11
                  replace fw_433 := (hs.o (gx.S hM) trivial rfl).1.trans fw_433
                  replace af_qs : h_465.2.1 qs = sf := (funext fun j => (hs.a (gqs.S hM) rfl j).1).trans af_qs
                  replace ex_355 := ex_355.trans (hs.a (gqt.S hM) rfl _).1.symm
                  replace hM := hM.tr (hs.mono (by decide))
                  have f_466 : h_465.2.1 x 8 = x_464 := by rw [eh_465]; exact hx_pi_at _ _ _ _
                  have hroom := hx_QQ_room hQ (n1 := x_464.toInt) (by omega) (by omega)
                  refine lv_aload_n hx hb dX10_compare_219 rfl (lv_at hl 4 rfl) ?_
                  refine lv_iload_n hx hb dX10_compare_220 rfl (lv_at hl 5 rfl) ?_
                  refine lv_iconst (v := 3) hx hb dX10_compare_221 (by decide) ?_
                  refine lv_isub hx hb dX10_compare_222 ?_
                  have rg_467 := i32_r i1
                  refine lv_topi (fun x_468 ex_468 => ?_)
                  have zx_468 : x_468.toInt = i1.toInt - 3 := by rw [ex_468]; exact i32_sub rfl (by decide) (by omega) (by omega)
                  refine lv_iload hx hb dX10_compare_223 (lv_at hl 1 rfl) ?_
                  refine lv_sipush (v := 10000) hx hb dX10_compare_225 (by decide) ?_
                  refine lv_iload hx hb dX10_compare_228 (lv_at hl 0 rfl) ?_
                  refine lv_iadd hx hb dX10_compare_230 ?_
                  have rg_469 := i32_r r_429
                  refine lv_topi (fun x_470 ex_470 => ?_)
                  have zx_470 : x_470.toInt = 10000 + r_429.toInt := by rw [ex_470]; exact i32_add (by decide) rfl (by omega) (by omega)
                  refine lv_iconst (v := 3) hx hb dX10_compare_231 (by decide) ?_
                  refine lv_isub hx hb dX10_compare_232 ?_
                  have rg_471 := i32_r x_470
                  refine lv_topi (fun x_472 ex_472 => ?_)
                  have zx_472 : x_472.toInt = x_470.toInt - 3 := by rw [ex_472]; exact i32_sub rfl (by decide) (by omega) (by omega)
                  have zc_3 : (3 : Int32).toInt = 3 := by decide
                  refine hx_goi (hx_runS (As := [.int x_468, .int (3 : Int32), .int x_472]) (rest := [.ref x]) ⟨hx, hb, hml, hown, hts⟩ hW (t_X10_compareOf l dC dI dA L_434 h_465 H.size x_468 (3 : Int32) x_472 hT ⟨by omega, by omega⟩ (by decide) ⟨by omega, by omega⟩) (va_cwS 3 hts (hx_gS kw_1132 kw_1130 kw_1131 kw_103) rfl rfl rfl (by decide +kernel) ⟨Nat.le_of_ble_eq_true rfl, Nat.le_of_ble_eq_true rfl⟩) rfl hl.1 rfl (Nat.le_of_ble_eq_true rfl) dX10_compare_233 ⟨Nat.le_of_ble_eq_true rfl, Nat.le_of_ble_eq_true rfl⟩) hW (fun r_475 L_473 h_474 H locs p_476 hW => ?_)
                  obtain ⟨hr_477, hT, hs⟩ := p_476
                  replace hT : hx_T T_tb L_473 h_474 := hT
                  replace hs : hx_S T_tb [] L_434 h_465 L_473 h_474 := hs
                  replace f_x_14 := (hs.o (gx.S hM) trivial rfl).1.trans f_x_14
                  replace f_11 := (hs.o (gx.S hM) trivial rfl).1.trans f_11
                  replace fw_433 := (hs.o (gx.S hM) trivial rfl).1.trans fw_433
                  replace f_466 := (hs.o (gx.S hM) trivial rfl).1.trans f_466
                  replace af_qs : h_474.2.1 qs = sf := (funext fun j => (hs.a (gqs.S hM) rfl j).1).trans af_qs
                  replace ex_355 := ex_355.trans (hs.a (gqt.S hM) rfl _).1.symm
                  replace hM := hM.tr (hs.mono (by decide))
                  refine hx_gov (hx_runV (As := [.int r_475]) (rest := []) ⟨hx, hb, hml, hown, hts⟩ hW (gx.S hM) tt_10 (T := TX10) (N := 98) rfl (t_X10_writes l dC dI dA L_473 h_474 H.size x r_475 hT (gx.S hM) qs (gqs.S hM) ((hM.o gx trivial rfl).2.trans f_x_15) sf af_qs st0 f_x_14 (by omega)) (cwV 1 hts (hx_gV kw_1138 kw_1135 kw_1137 kw_50 kw_103) rfl rfl rfl (by decide +kernel) ⟨Nat.le_of_ble_eq_true rfl, Nat.le_of_ble_eq_true rfl⟩) rfl hl.1 rfl (Nat.le_of_ble_eq_true rfl) dX10_compare_236 ⟨Nat.le_of_ble_eq_true rfl, Nat.le_of_ble_eq_true rfl⟩) hW (fun L_478 h_479 H locs p_481 hW => ?_)
                  obtain ⟨⟨w_483, w_484, fw_483, fw_484, hr_482⟩, hT, hs⟩ := p_481
                  replace hT : hx_T T_tb L_478 h_479 := hT
                  replace hs : hx_S T_tb [(10, 14), (55, 0)] L_473 h_474 L_478 h_479 := hs
                  replace f_11 := (hs.o (gx.S hM) trivial rfl).1.trans f_11
                  replace fw_433 := (hs.o (gx.S hM) trivial rfl).1.trans fw_433
                  replace f_466 := (hs.o (gx.S hM) trivial rfl).1.trans f_466
                  replace ex_355 := ex_355.trans (hs.a (gqt.S hM) rfl _).1.symm
                  replace hM := hM.tr (hs.mono (by decide))
                  have fw_483 : h_479.2.1 x 14 = w_483 := fw_483
                  have bw_483 := hT.gi (gx.S hM) tt_10 (k := 14) rfl
                  rw [fw_483] at bw_483
                  have bw_483 : 0 ≤ w_483.toInt ∧ w_483.toInt ≤ 128 := bw_483
                  have fw_484 : h_479.2.1 qs = w_484 := fw_484
                  refine lv_iconst (v := 1) hx hb dX10_compare_239 (by decide) ?_
                  exact hx_retz hx hb hr rfl hlk hW ⟨⟨x_9, x_464, w_483, w_484, f_11, f_466, fw_483, fw_484, ⟨by decide, by omega, fun _ => hx_QQ_cmp hQ (by omega) (by omega) (by omega) hr_477 (hx_cl (by omega)) (by omega) hr_482.1 hr_482.2⟩⟩, hT, hM⟩ dX10_compare_240
          · skip
            clear hr_21
            refine lv_aload_n hx hb dX10_compare_82 rfl (lv_at hl 1 rfl) ?_
            refine lv_iconst (v := 0) hx hb dX10_compare_83 (by decide) ?_
            refine lv_aload_n hx hb dX10_compare_84 rfl (lv_at hl 1 rfl) ?_
            refine hk_geti hx hb hts hC_10 hown hW (gx.S hM) tt_10 8 (by decide) rfl kw_1151 ⟨rfl, rfl, rfl⟩ fw_22 dX10_compare_85 ?_
            have zc_0 : (0 : Int32).toInt = 0 := by decide
            refine hx_goi (hx_runV (As := [.int (0 : Int32), .int w_22]) (rest := []) ⟨hx, hb, hml, hown, hts⟩ hW (gx.S hM) tt_10 (T := TX10) (N := 98) rfl (t_X10_fails l dC dI dA L_17 h_18 H.size x (0 : Int32) w_22 hT (gx.S hM)) (cwV 2 hts (hx_gV kw_1480 kw_1477 kw_1479 kw_56 kw_103) rfl rfl rfl (by decide +kernel) ⟨Nat.le_of_ble_eq_true rfl, Nat.le_of_ble_eq_true rfl⟩) rfl hl.1 rfl (Nat.le_of_ble_eq_true rfl) dX10_compare_88 ⟨Nat.le_of_ble_eq_true rfl, Nat.le_of_ble_eq_true rfl⟩) hW (fun r_487 L_485 h_486 H locs p_488 hW => ?_)
            obtain ⟨hr_489, hT, hs⟩ := p_488
            replace hT : hx_T T_tb L_485 h_486 := hT
            replace hs : hx_S T_tb [(10, 9)] L_17 h_18 L_485 h_486 := hs
            replace f_x_14 := (hs.o (gx.S hM) trivial rfl).1.trans f_x_14
            replace f_x_11 := (hs.o (gx.S hM) trivial rfl).1.trans f_x_11
            replace f_11 := (hs.o (gx.S hM) trivial rfl).1.trans f_11
            replace fw_22 := (hs.o (gx.S hM) trivial rfl).1.trans fw_22
            replace af_qs : h_486.2.1 qs = sf := (funext fun j => (hs.a (gqs.S hM) rfl j).1).trans af_qs
            replace hM := hM.tr (hs.mono (by decide))
            exact hx_retz hx hb hr (hx_nar01 (by omega)) hlk hW ⟨⟨x_9, w_22, st0, sf, f_11, fw_22, f_x_14, af_qs, ⟨by omega, by omega, fun z => by exfalso; omega⟩⟩, hT, hM⟩ dX10_compare_91
    · skip
      refine lv_aload_n hx hb dX10_compare_26 rfl (lv_at hl 0 rfl) ?_
      refine lv_iconst (v := 4) hx hb dX10_compare_27 (by decide) ?_
      refine lv_aload_n hx hb dX10_compare_28 rfl (lv_at hl 0 rfl) ?_
      refine hk_geti hx hb hts hC_10 hown hW (gx.S hM) tt_10 8 (by decide) rfl kw_1151 ⟨rfl, rfl, rfl⟩ f_x_8 dX10_compare_29 ?_
      have zc_4 : (4 : Int32).toInt = 4 := by decide
      refine hx_goi (hx_runV (As := [.int (4 : Int32), .int nx0]) (rest := []) ⟨hx, hb, hml, hown, hts⟩ hW (gx.S hM) tt_10 (T := TX10) (N := 98) rfl (t_X10_fails l dC dI dA L_1 h_2 H.size x (4 : Int32) nx0 hT (gx.S hM)) (cwV 2 hts (hx_gV kw_1480 kw_1477 kw_1479 kw_56 kw_103) rfl rfl rfl (by decide +kernel) ⟨Nat.le_of_ble_eq_true rfl, Nat.le_of_ble_eq_true rfl⟩) rfl hl.1 rfl (Nat.le_of_ble_eq_true rfl) dX10_compare_32 ⟨Nat.le_of_ble_eq_true rfl, Nat.le_of_ble_eq_true rfl⟩) hW (fun r_492 L_490 h_491 H locs p_493 hW => ?_)
      obtain ⟨hr_494, hT, hs⟩ := p_493
      replace hT : hx_T T_tb L_490 h_491 := hT
      replace hs : hx_S T_tb [(10, 9)] L_1 h_2 L_490 h_491 := hs
      replace f_x_16 := (hs.o (gx.S hM) trivial rfl).1.trans f_x_16
      replace f_x_8 := (hs.o (gx.S hM) trivial rfl).1.trans f_x_8
      replace f_x_14 := (hs.o (gx.S hM) trivial rfl).1.trans f_x_14
      replace f_x_11 := (hs.o (gx.S hM) trivial rfl).1.trans f_x_11
      replace af_qs : h_491.2.1 qs = sf := (funext fun j => (hs.a (gqs.S hM) rfl j).1).trans af_qs
      replace hM := hM.tr (hs.mono (by decide))
      exact hx_retz hx hb hr (hx_nar01 (by omega)) hlk hW ⟨⟨cp0, nx0, st0, sf, f_x_16, f_x_8, f_x_14, af_qs, ⟨by omega, by omega, fun z => by exfalso; omega⟩⟩, hT, hM⟩ dX10_compare_35
  · skip
    replace hr_5 := hr_5.resolve_right (fun z9 => absurd (c_6.symm.trans z9.1) (by decide))
    replace hr_5 := hr_5.2
    refine lv_aload_n hx hb dX10_compare_7 rfl (lv_at hl 0 rfl) ?_
    refine lv_iconst (v := 0) hx hb dX10_compare_8 (by decide) ?_
    refine lv_aload_n hx hb dX10_compare_9 rfl (lv_at hl 0 rfl) ?_
    refine hk_geti hx hb hts hC_10 hown hW (gx.S hM) tt_10 8 (by decide) rfl kw_1151 ⟨rfl, rfl, rfl⟩ f_x_8 dX10_compare_10 ?_
    have zc_0 : (0 : Int32).toInt = 0 := by decide
    refine hx_goi (hx_runV (As := [.int (0 : Int32), .int nx0]) (rest := []) ⟨hx, hb, hml, hown, hts⟩ hW (gx.S hM) tt_10 (T := TX10) (N := 98) rfl (t_X10_fails l dC dI dA L_1 h_2 H.size x (0 : Int32) nx0 hT (gx.S hM)) (cwV 2 hts (hx_gV kw_1480 kw_1477 kw_1479 kw_56 kw_103) rfl rfl rfl (by decide +kernel) ⟨Nat.le_of_ble_eq_true rfl, Nat.le_of_ble_eq_true rfl⟩) rfl hl.1 rfl (Nat.le_of_ble_eq_true rfl) dX10_compare_13 ⟨Nat.le_of_ble_eq_true rfl, Nat.le_of_ble_eq_true rfl⟩) hW (fun r_497 L_495 h_496 H locs p_498 hW => ?_)
    obtain ⟨hr_499, hT, hs⟩ := p_498
    replace hT : hx_T T_tb L_495 h_496 := hT
    replace hs : hx_S T_tb [(10, 9)] L_1 h_2 L_495 h_496 := hs
    replace f_x_16 := (hs.o (gx.S hM) trivial rfl).1.trans f_x_16
    replace f_x_8 := (hs.o (gx.S hM) trivial rfl).1.trans f_x_8
    replace f_x_14 := (hs.o (gx.S hM) trivial rfl).1.trans f_x_14
    replace f_x_11 := (hs.o (gx.S hM) trivial rfl).1.trans f_x_11
    replace af_qs : h_496.2.1 qs = sf := (funext fun j => (hs.a (gqs.S hM) rfl j).1).trans af_qs
    replace hM := hM.tr (hs.mono (by decide))
    exact hx_retz hx hb hr (hx_nar01 (by omega)) hlk hW ⟨⟨cp0, nx0, st0, sf, f_x_16, f_x_8, f_x_14, af_qs, ⟨by omega, by omega, fun z => by exfalso; omega⟩⟩, hT, hM⟩ dX10_compare_16
