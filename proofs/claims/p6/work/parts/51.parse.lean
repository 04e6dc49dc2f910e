def wLX10_compare_0 : List Nat := [27, 184, 1, 14, 154, 0, 13, 42, 3, 42, 180, 0, 245, 182, 0, 255, 172, 42, 180, 1, 18, 16, 20, 160, 0, 13, 42, 7, 42, 180, 0, 245, 182, 0, 255, 172, 42, 89, 180, 1, 18, 4, 96, 181, 1, 18, 42, 89, 180, 0, 245, 42, 180, 0, 252, 96, 181, 0, 245, 42, 182, 0, 248, 61]
def wLX10_compare_1 : List Nat := [28, 16, 60, 159, 0, 25, 28, 16, 61, 159, 0, 19, 28, 16, 62, 159, 0, 13, 42, 3, 42, 180, 0, 245, 182, 0, 255, 172, 42, 89, 180, 0, 245, 4, 96, 181, 0, 245, 28, 16, 61, 159, 0, 32, 42, 180, 0, 245, 42, 180, 0, 236, 162, 0, 21, 42, 180, 0, 22, 42, 180, 0, 245, 51]
def wLX10_compare_2 : List Nat := [16, 61, 160, 0, 7, 4, 167, 0, 4, 3, 62, 29, 153, 0, 13, 42, 89, 180, 0, 245, 4, 96, 181, 0, 245, 28, 16, 60, 160, 0, 15, 29, 153, 0, 7, 4, 167, 0, 26, 3, 167, 0, 22, 28, 16, 61, 160, 0, 7, 5, 167, 0, 12, 29, 153, 0, 7, 6, 167, 0, 4, 7, 54, 4]
def wLX10_compare_3 : List Nat := [42, 182, 1, 21, 54, 5, 21, 5, 184, 1, 14, 153, 0, 38, 42, 89, 180, 0, 245, 42, 180, 0, 252, 96, 181, 0, 245, 42, 27, 6, 100, 21, 4, 17, 39, 16, 21, 5, 96, 6, 100, 184, 1, 24, 182, 1, 28, 4, 172, 42, 3, 17, 39, 15, 182, 1, 31, 154, 0, 5, 3, 172, 42, 27]
def wLX10_compare_4 : List Nat := [6, 100, 21, 4, 42, 180, 1, 3, 184, 1, 24, 182, 1, 28, 4, 172]
theorem wX10_compare_0 : (cX10_compare.data.toList.map UInt8.toNat).drop 0 = wLX10_compare_0 ++ (wLX10_compare_1 ++ (wLX10_compare_2 ++ (wLX10_compare_3 ++ (wLX10_compare_4 ++ ([]))))) := by decide +kernel
theorem wX10_compare_1 : (cX10_compare.data.toList.map UInt8.toNat).drop 64 = wLX10_compare_1 ++ (wLX10_compare_2 ++ (wLX10_compare_3 ++ (wLX10_compare_4 ++ ([])))) := hz_wn wX10_compare_0 rfl
theorem wX10_compare_2 : (cX10_compare.data.toList.map UInt8.toNat).drop 128 = wLX10_compare_2 ++ (wLX10_compare_3 ++ (wLX10_compare_4 ++ ([]))) := hz_wn wX10_compare_1 rfl
theorem wX10_compare_3 : (cX10_compare.data.toList.map UInt8.toNat).drop 192 = wLX10_compare_3 ++ (wLX10_compare_4 ++ ([])) := hz_wn wX10_compare_2 rfl
theorem wX10_compare_4 : (cX10_compare.data.toList.map UInt8.toNat).drop 256 = wLX10_compare_4 ++ ([]) := hz_wn wX10_compare_3 rfl
theorem dX10_compare_0 : decode cX10_compare 0 = .ok (.iload_n 1, 1) := dq_27 (hz_wg wX10_compare_0 (j := 0) (n := 27) rfl)
theorem dX10_compare_1 : decode cX10_compare 1 = .ok (.invokestatic 270, 3) := dq_184 (hz_wg wX10_compare_0 (j := 1) (n := 184) rfl) (hz_wg wX10_compare_0 (j := 2) (n := 1) rfl) (hz_wg wX10_compare_0 (j := 3) (n := 14) rfl) rfl
theorem dX10_compare_4 : decode cX10_compare 4 = .ok (.ifCond .ne 13, 3) := dq_154 (hz_wg wX10_compare_0 (j := 4) (n := 154) rfl) (hz_wg wX10_compare_0 (j := 5) (n := 0) rfl) (hz_wg wX10_compare_0 (j := 6) (n := 13) rfl) (by decide)
theorem dX10_compare_7 : decode cX10_compare 7 = .ok (.aload_n 0, 1) := dq_42 (hz_wg wX10_compare_0 (j := 7) (n := 42) rfl)
theorem dX10_compare_8 : decode cX10_compare 8 = .ok (.iconst 0, 1) := dq_3 (hz_wg wX10_compare_0 (j := 8) (n := 3) rfl)
theorem dX10_compare_9 : decode cX10_compare 9 = .ok (.aload_n 0, 1) := dq_42 (hz_wg wX10_compare_0 (j := 9) (n := 42) rfl)
theorem dX10_compare_10 : decode cX10_compare 10 = .ok (.getfield 245, 3) := dq_180 (hz_wg wX10_compare_0 (j := 10) (n := 180) rfl) (hz_wg wX10_compare_0 (j := 11) (n := 0) rfl) (hz_wg wX10_compare_0 (j := 12) (n := 245) rfl) rfl
theorem dX10_compare_13 : decode cX10_compare 13 = .ok (.invokevirtual 255, 3) := dq_182 (hz_wg wX10_compare_0 (j := 13) (n := 182) rfl) (hz_wg wX10_compare_0 (j := 14) (n := 0) rfl) (hz_wg wX10_compare_0 (j := 15) (n := 255) rfl) rfl
theorem dX10_compare_16 : decode cX10_compare 16 = .ok (.ireturn, 1) := dq_172 (hz_wg wX10_compare_0 (j := 16) (n := 172) rfl)
theorem dX10_compare_17 : decode cX10_compare 17 = .ok (.aload_n 0, 1) := dq_42 (hz_wg wX10_compare_0 (j := 17) (n := 42) rfl)
theorem dX10_compare_18 : decode cX10_compare 18 = .ok (.getfield 274, 3) := dq_180 (hz_wg wX10_compare_0 (j := 18) (n := 180) rfl) (hz_wg wX10_compare_0 (j := 19) (n := 1) rfl) (hz_wg wX10_compare_0 (j := 20) (n := 18) rfl) rfl
theorem dX10_compare_21 : decode cX10_compare 21 = .ok (.bipush 20, 2) := dq_16 (hz_wg wX10_compare_0 (j := 21) (n := 16) rfl) (hz_wg wX10_compare_0 (j := 22) (n := 20) rfl) (by decide)
theorem dX10_compare_23 : decode cX10_compare 23 = .ok (.if_icmp .ne 13, 3) := dq_160 (hz_wg wX10_compare_0 (j := 23) (n := 160) rfl) (hz_wg wX10_compare_0 (j := 24) (n := 0) rfl) (hz_wg wX10_compare_0 (j := 25) (n := 13) rfl) (by decide)
theorem dX10_compare_26 : decode cX10_compare 26 = .ok (.aload_n 0, 1) := dq_42 (hz_wg wX10_compare_0 (j := 26) (n := 42) rfl)
theorem dX10_compare_27 : decode cX10_compare 27 = .ok (.iconst 4, 1) := dq_7 (hz_wg wX10_compare_0 (j := 27) (n := 7) rfl)
theorem dX10_compare_28 : decode cX10_compare 28 = .ok (.aload_n 0, 1) := dq_42 (hz_wg wX10_compare_0 (j := 28) (n := 42) rfl)
theorem dX10_compare_29 : decode cX10_compare 29 = .ok (.getfield 245, 3) := dq_180 (hz_wg wX10_compare_0 (j := 29) (n := 180) rfl) (hz_wg wX10_compare_0 (j := 30) (n := 0) rfl) (hz_wg wX10_compare_0 (j := 31) (n := 245) rfl) rfl
theorem dX10_compare_32 : decode cX10_compare 32 = .ok (.invokevirtual 255, 3) := dq_182 (hz_wg wX10_compare_0 (j := 32) (n := 182) rfl) (hz_wg wX10_compare_0 (j := 33) (n := 0) rfl) (hz_wg wX10_compare_0 (j := 34) (n := 255) rfl) rfl
theorem dX10_compare_35 : decode cX10_compare 35 = .ok (.ireturn, 1) := dq_172 (hz_wg wX10_compare_0 (j := 35) (n := 172) rfl)
theorem dX10_compare_36 : decode cX10_compare 36 = .ok (.aload_n 0, 1) := dq_42 (hz_wg wX10_compare_0 (j := 36) (n := 42) rfl)
theorem dX10_compare_37 : decode cX10_compare 37 = .ok (.dup, 1) := dq_89 (hz_wg wX10_compare_0 (j := 37) (n := 89) rfl)
theorem dX10_compare_38 : decode cX10_compare 38 = .ok (.getfield 274, 3) := dq_180 (hz_wg wX10_compare_0 (j := 38) (n := 180) rfl) (hz_wg wX10_compare_0 (j := 39) (n := 1) rfl) (hz_wg wX10_compare_0 (j := 40) (n := 18) rfl) rfl
theorem dX10_compare_41 : decode cX10_compare 41 = .ok (.iconst 1, 1) := dq_4 (hz_wg wX10_compare_0 (j := 41) (n := 4) rfl)
theorem dX10_compare_42 : decode cX10_compare 42 = .ok (.iadd, 1) := dq_96 (hz_wg wX10_compare_0 (j := 42) (n := 96) rfl)
theorem dX10_compare_43 : decode cX10_compare 43 = .ok (.putfield 274, 3) := dq_181 (hz_wg wX10_compare_0 (j := 43) (n := 181) rfl) (hz_wg wX10_compare_0 (j := 44) (n := 1) rfl) (hz_wg wX10_compare_0 (j := 45) (n := 18) rfl) rfl
theorem dX10_compare_46 : decode cX10_compare 46 = .ok (.aload_n 0, 1) := dq_42 (hz_wg wX10_compare_0 (j := 46) (n := 42) rfl)
theorem dX10_compare_47 : decode cX10_compare 47 = .ok (.dup, 1) := dq_89 (hz_wg wX10_compare_0 (j := 47) (n := 89) rfl)
theorem dX10_compare_48 : decode cX10_compare 48 = .ok (.getfield 245, 3) := dq_180 (hz_wg wX10_compare_0 (j := 48) (n := 180) rfl) (hz_wg wX10_compare_0 (j := 49) (n := 0) rfl) (hz_wg wX10_compare_0 (j := 50) (n := 245) rfl) rfl
theorem dX10_compare_51 : decode cX10_compare 51 = .ok (.aload_n 0, 1) := dq_42 (hz_wg wX10_compare_0 (j := 51) (n := 42) rfl)
theorem dX10_compare_52 : decode cX10_compare 52 = .ok (.getfield 252, 3) := dq_180 (hz_wg wX10_compare_0 (j := 52) (n := 180) rfl) (hz_wg wX10_compare_0 (j := 53) (n := 0) rfl) (hz_wg wX10_compare_0 (j := 54) (n := 252) rfl) rfl
theorem dX10_compare_55 : decode cX10_compare 55 = .ok (.iadd, 1) := dq_96 (hz_wg wX10_compare_0 (j := 55) (n := 96) rfl)
theorem dX10_compare_56 : decode cX10_compare 56 = .ok (.putfield 245, 3) := dq_181 (hz_wg wX10_compare_0 (j := 56) (n := 181) rfl) (hz_wg wX10_compare_0 (j := 57) (n := 0) rfl) (hz_wg wX10_compare_0 (j := 58) (n := 245) rfl) rfl
theorem dX10_compare_59 : decode cX10_compare 59 = .ok (.aload_n 0, 1) := dq_42 (hz_wg wX10_compare_0 (j := 59) (n := 42) rfl)
theorem dX10_compare_60 : decode cX10_compare 60 = .ok (.invokevirtual 248, 3) := dq_182 (hz_wg wX10_compare_0 (j := 60) (n := 182) rfl) (hz_wg wX10_compare_0 (j := 61) (n := 0) rfl) (hz_wg wX10_compare_0 (j := 62) (n := 248) rfl) rfl
theorem dX10_compare_63 : decode cX10_compare 63 = .ok (.istore_n 2, 1) := dq_61 (hz_wg wX10_compare_0 (j := 63) (n := 61) rfl)
theorem dX10_compare_64 : decode cX10_compare 64 = .ok (.iload_n 2, 1) := dq_28 (hz_wg wX10_compare_1 (j := 0) (n := 28) rfl)
theorem dX10_compare_65 : decode cX10_compare 65 = .ok (.bipush 60, 2) := dq_16 (hz_wg wX10_compare_1 (j := 1) (n := 16) rfl) (hz_wg wX10_compare_1 (j := 2) (n := 60) rfl) (by decide)
theorem dX10_compare_67 : decode cX10_compare 67 = .ok (.if_icmp .eq 25, 3) := dq_159 (hz_wg wX10_compare_1 (j := 3) (n := 159) rfl) (hz_wg wX10_compare_1 (j := 4) (n := 0) rfl) (hz_wg wX10_compare_1 (j := 5) (n := 25) rfl) (by decide)
theorem dX10_compare_70 : decode cX10_compare 70 = .ok (.iload_n 2, 1) := dq_28 (hz_wg wX10_compare_1 (j := 6) (n := 28) rfl)
theorem dX10_compare_71 : decode cX10_compare 71 = .ok (.bipush 61, 2) := dq_16 (hz_wg wX10_compare_1 (j := 7) (n := 16) rfl) (hz_wg wX10_compare_1 (j := 8) (n := 61) rfl) (by decide)
theorem dX10_compare_73 : decode cX10_compare 73 = .ok (.if_icmp .eq 19, 3) := dq_159 (hz_wg wX10_compare_1 (j := 9) (n := 159) rfl) (hz_wg wX10_compare_1 (j := 10) (n := 0) rfl) (hz_wg wX10_compare_1 (j := 11) (n := 19) rfl) (by decide)
theorem dX10_compare_76 : decode cX10_compare 76 = .ok (.iload_n 2, 1) := dq_28 (hz_wg wX10_compare_1 (j := 12) (n := 28) rfl)
theorem dX10_compare_77 : decode cX10_compare 77 = .ok (.bipush 62, 2) := dq_16 (hz_wg wX10_compare_1 (j := 13) (n := 16) rfl) (hz_wg wX10_compare_1 (j := 14) (n := 62) rfl) (by decide)
theorem dX10_compare_79 : decode cX10_compare 79 = .ok (.if_icmp .eq 13, 3) := dq_159 (hz_wg wX10_compare_1 (j := 15) (n := 159) rfl) (hz_wg wX10_compare_1 (j := 16) (n := 0) rfl) (hz_wg wX10_compare_1 (j := 17) (n := 13) rfl) (by decide)
theorem dX10_compare_82 : decode cX10_compare 82 = .ok (.aload_n 0, 1) := dq_42 (hz_wg wX10_compare_1 (j := 18) (n := 42) rfl)
theorem dX10_compare_83 : decode cX10_compare 83 = .ok (.iconst 0, 1) := dq_3 (hz_wg wX10_compare_1 (j := 19) (n := 3) rfl)
theorem dX10_compare_84 : decode cX10_compare 84 = .ok (.aload_n 0, 1) := dq_42 (hz_wg wX10_compare_1 (j := 20) (n := 42) rfl)
theorem dX10_compare_85 : decode cX10_compare 85 = .ok (.getfield 245, 3) := dq_180 (hz_wg wX10_compare_1 (j := 21) (n := 180) rfl) (hz_wg wX10_compare_1 (j := 22) (n := 0) rfl) (hz_wg wX10_compare_1 (j := 23) (n := 245) rfl) rfl
theorem dX10_compare_88 : decode cX10_compare 88 = .ok (.invokevirtual 255, 3) := dq_182 (hz_wg wX10_compare_1 (j := 24) (n := 182) rfl) (hz_wg wX10_compare_1 (j := 25) (n := 0) rfl) (hz_wg wX10_compare_1 (j := 26) (n := 255) rfl) rfl
theorem dX10_compare_91 : decode cX10_compare 91 = .ok (.ireturn, 1) := dq_172 (hz_wg wX10_compare_1 (j := 27) (n := 172) rfl)
theorem dX10_compare_92 : decode cX10_compare 92 = .ok (.aload_n 0, 1) := dq_42 (hz_wg wX10_compare_1 (j := 28) (n := 42) rfl)
theorem dX10_compare_93 : decode cX10_compare 93 = .ok (.dup, 1) := dq_89 (hz_wg wX10_compare_1 (j := 29) (n := 89) rfl)
theorem dX10_compare_94 : decode cX10_compare 94 = .ok (.getfield 245, 3) := dq_180 (hz_wg wX10_compare_1 (j := 30) (n := 180) rfl) (hz_wg wX10_compare_1 (j := 31) (n := 0) rfl) (hz_wg wX10_compare_1 (j := 32) (n := 245) rfl) rfl
theorem dX10_compare_97 : decode cX10_compare 97 = .ok (.iconst 1, 1) := dq_4 (hz_wg wX10_compare_1 (j := 33) (n := 4) rfl)
theorem dX10_compare_98 : decode cX10_compare 98 = .ok (.iadd, 1) := dq_96 (hz_wg wX10_compare_1 (j := 34) (n := 96) rfl)
theorem dX10_compare_99 : decode cX10_compare 99 = .ok (.putfield 245, 3) := dq_181 (hz_wg wX10_compare_1 (j := 35) (n := 181) rfl) (hz_wg wX10_compare_1 (j := 36) (n := 0) rfl) (hz_wg wX10_compare_1 (j := 37) (n := 245) rfl) rfl
theorem dX10_compare_102 : decode cX10_compare 102 = .ok (.iload_n 2, 1) := dq_28 (hz_wg wX10_compare_1 (j := 38) (n := 28) rfl)
theorem dX10_compare_103 : decode cX10_compare 103 = .ok (.bipush 61, 2) := dq_16 (hz_wg wX10_compare_1 (j := 39) (n := 16) rfl) (hz_wg wX10_compare_1 (j := 40) (n := 61) rfl) (by decide)
theorem dX10_compare_105 : decode cX10_compare 105 = .ok (.if_icmp .eq 32, 3) := dq_159 (hz_wg wX10_compare_1 (j := 41) (n := 159) rfl) (hz_wg wX10_compare_1 (j := 42) (n := 0) rfl) (hz_wg wX10_compare_1 (j := 43) (n := 32) rfl) (by decide)
theorem dX10_compare_108 : decode cX10_compare 108 = .ok (.aload_n 0, 1) := dq_42 (hz_wg wX10_compare_1 (j := 44) (n := 42) rfl)
theorem dX10_compare_109 : decode cX10_compare 109 = .ok (.getfield 245, 3) := dq_180 (hz_wg wX10_compare_1 (j := 45) (n := 180) rfl) (hz_wg wX10_compare_1 (j := 46) (n := 0) rfl) (hz_wg wX10_compare_1 (j := 47) (n := 245) rfl) rfl
theorem dX10_compare_112 : decode cX10_compare 112 = .ok (.aload_n 0, 1) := dq_42 (hz_wg wX10_compare_1 (j := 48) (n := 42) rfl)
theorem dX10_compare_113 : decode cX10_compare 113 = .ok (.getfield 236, 3) := dq_180 (hz_wg wX10_compare_1 (j := 49) (n := 180) rfl) (hz_wg wX10_compare_1 (j := 50) (n := 0) rfl) (hz_wg wX10_compare_1 (j := 51) (n := 236) rfl) rfl
theorem dX10_compare_116 : decode cX10_compare 116 = .ok (.if_icmp .ge 21, 3) := dq_162 (hz_wg wX10_compare_1 (j := 52) (n := 162) rfl) (hz_wg wX10_compare_1 (j := 53) (n := 0) rfl) (hz_wg wX10_compare_1 (j := 54) (n := 21) rfl) (by decide)
theorem dX10_compare_119 : decode cX10_compare 119 = .ok (.aload_n 0, 1) := dq_42 (hz_wg wX10_compare_1 (j := 55) (n := 42) rfl)
theorem dX10_compare_120 : decode cX10_compare 120 = .ok (.getfield 22, 3) := dq_180 (hz_wg wX10_compare_1 (j := 56) (n := 180) rfl) (hz_wg wX10_compare_1 (j := 57) (n := 0) rfl) (hz_wg wX10_compare_1 (j := 58) (n := 22) rfl) rfl
theorem dX10_compare_123 : decode cX10_compare 123 = .ok (.aload_n 0, 1) := dq_42 (hz_wg wX10_compare_1 (j := 59) (n := 42) rfl)
theorem dX10_compare_124 : decode cX10_compare 124 = .ok (.getfield 245, 3) := dq_180 (hz_wg wX10_compare_1 (j := 60) (n := 180) rfl) (hz_wg wX10_compare_1 (j := 61) (n := 0) rfl) (hz_wg wX10_compare_1 (j := 62) (n := 245) rfl) rfl
theorem dX10_compare_127 : decode cX10_compare 127 = .ok (.baload, 1) := dq_51 (hz_wg wX10_compare_1 (j := 63) (n := 51) rfl)
theorem dX10_compare_128 : decode cX10_compare 128 = .ok (.bipush 61, 2) := dq_16 (hz_wg wX10_compare_2 (j := 0) (n := 16) rfl) (hz_wg wX10_compare_2 (j := 1) (n := 61) rfl) (by decide)
theorem dX10_compare_130 : decode cX10_compare 130 = .ok (.if_icmp .ne 7, 3) := dq_160 (hz_wg wX10_compare_2 (j := 2) (n := 160) rfl) (hz_wg wX10_compare_2 (j := 3) (n := 0) rfl) (hz_wg wX10_compare_2 (j := 4) (n := 7) rfl) (by decide)
theorem dX10_compare_133 : decode cX10_compare 133 = .ok (.iconst 1, 1) := dq_4 (hz_wg wX10_compare_2 (j := 5) (n := 4) rfl)
theorem dX10_compare_134 : decode cX10_compare 134 = .ok (.goto 4, 3) := dq_167 (hz_wg wX10_compare_2 (j := 6) (n := 167) rfl) (hz_wg wX10_compare_2 (j := 7) (n := 0) rfl) (hz_wg wX10_compare_2 (j := 8) (n := 4) rfl) (by decide)
theorem dX10_compare_137 : decode cX10_compare 137 = .ok (.iconst 0, 1) := dq_3 (hz_wg wX10_compare_2 (j := 9) (n := 3) rfl)
theorem dX10_compare_138 : decode cX10_compare 138 = .ok (.istore_n 3, 1) := dq_62 (hz_wg wX10_compare_2 (j := 10) (n := 62) rfl)
theorem dX10_compare_139 : decode cX10_compare 139 = .ok (.iload_n 3, 1) := dq_29 (hz_wg wX10_compare_2 (j := 11) (n := 29) rfl)
theorem dX10_compare_140 : decode cX10_compare 140 = .ok (.ifCond .eq 13, 3) := dq_153 (hz_wg wX10_compare_2 (j := 12) (n := 153) rfl) (hz_wg wX10_compare_2 (j := 13) (n := 0) rfl) (hz_wg wX10_compare_2 (j := 14) (n := 13) rfl) (by decide)
theorem dX10_compare_143 : decode cX10_compare 143 = .ok (.aload_n 0, 1) := dq_42 (hz_wg wX10_compare_2 (j := 15) (n := 42) rfl)
theorem dX10_compare_144 : decode cX10_compare 144 = .ok (.dup, 1) := dq_89 (hz_wg wX10_compare_2 (j := 16) (n := 89) rfl)
theorem dX10_compare_145 : decode cX10_compare 145 = .ok (.getfield 245, 3) := dq_180 (hz_wg wX10_compare_2 (j := 17) (n := 180) rfl) (hz_wg wX10_compare_2 (j := 18) (n := 0) rfl) (hz_wg wX10_compare_2 (j := 19) (n := 245) rfl) rfl
theorem dX10_compare_148 : decode cX10_compare 148 = .ok (.iconst 1, 1) := dq_4 (hz_wg wX10_compare_2 (j := 20) (n := 4) rfl)
theorem dX10_compare_149 : decode cX10_compare 149 = .ok (.iadd, 1) := dq_96 (hz_wg wX10_compare_2 (j := 21) (n := 96) rfl)
theorem dX10_compare_150 : decode cX10_compare 150 = .ok (.putfield 245, 3) := dq_181 (hz_wg wX10_compare_2 (j := 22) (n := 181) rfl) (hz_wg wX10_compare_2 (j := 23) (n := 0) rfl) (hz_wg wX10_compare_2 (j := 24) (n := 245) rfl) rfl
theorem dX10_compare_153 : decode cX10_compare 153 = .ok (.iload_n 2, 1) := dq_28 (hz_wg wX10_compare_2 (j := 25) (n := 28) rfl)
theorem dX10_compare_154 : decode cX10_compare 154 = .ok (.bipush 60, 2) := dq_16 (hz_wg wX10_compare_2 (j := 26) (n := 16) rfl) (hz_wg wX10_compare_2 (j := 27) (n := 60) rfl) (by decide)
theorem dX10_compare_156 : decode cX10_compare 156 = .ok (.if_icmp .ne 15, 3) := dq_160 (hz_wg wX10_compare_2 (j := 28) (n := 160) rfl) (hz_wg wX10_compare_2 (j := 29) (n := 0) rfl) (hz_wg wX10_compare_2 (j := 30) (n := 15) rfl) (by decide)
theorem dX10_compare_159 : decode cX10_compare 159 = .ok (.iload_n 3, 1) := dq_29 (hz_wg wX10_compare_2 (j := 31) (n := 29) rfl)
theorem dX10_compare_160 : decode cX10_compare 160 = .ok (.ifCond .eq 7, 3) := dq_153 (hz_wg wX10_compare_2 (j := 32) (n := 153) rfl) (hz_wg wX10_compare_2 (j := 33) (n := 0) rfl) (hz_wg wX10_compare_2 (j := 34) (n := 7) rfl) (by decide)
theorem dX10_compare_163 : decode cX10_compare 163 = .ok (.iconst 1, 1) := dq_4 (hz_wg wX10_compare_2 (j := 35) (n := 4) rfl)
theorem dX10_compare_164 : decode cX10_compare 164 = .ok (.goto 26, 3) := dq_167 (hz_wg wX10_compare_2 (j := 36) (n := 167) rfl) (hz_wg wX10_compare_2 (j := 37) (n := 0) rfl) (hz_wg wX10_compare_2 (j := 38) (n := 26) rfl) (by decide)
theorem dX10_compare_167 : decode cX10_compare 167 = .ok (.iconst 0, 1) := dq_3 (hz_wg wX10_compare_2 (j := 39) (n := 3) rfl)
theorem dX10_compare_168 : decode cX10_compare 168 = .ok (.goto 22, 3) := dq_167 (hz_wg wX10_compare_2 (j := 40) (n := 167) rfl) (hz_wg wX10_compare_2 (j := 41) (n := 0) rfl) (hz_wg wX10_compare_2 (j := 42) (n := 22) rfl) (by decide)
theorem dX10_compare_171 : decode cX10_compare 171 = .ok (.iload_n 2, 1) := dq_28 (hz_wg wX10_compare_2 (j := 43) (n := 28) rfl)
theorem dX10_compare_172 : decode cX10_compare 172 = .ok (.bipush 61, 2) := dq_16 (hz_wg wX10_compare_2 (j := 44) (n := 16) rfl) (hz_wg wX10_compare_2 (j := 45) (n := 61) rfl) (by decide)
theorem dX10_compare_174 : decode cX10_compare 174 = .ok (.if_icmp .ne 7, 3) := dq_160 (hz_wg wX10_compare_2 (j := 46) (n := 160) rfl) (hz_wg wX10_compare_2 (j := 47) (n := 0) rfl) (hz_wg wX10_compare_2 (j := 48) (n := 7) rfl) (by decide)
theorem dX10_compare_177 : decode cX10_compare 177 = .ok (.iconst 2, 1) := dq_5 (hz_wg wX10_compare_2 (j := 49) (n := 5) rfl)
theorem dX10_compare_178 : decode cX10_compare 178 = .ok (.goto 12, 3) := dq_167 (hz_wg wX10_compare_2 (j := 50) (n := 167) rfl) (hz_wg wX10_compare_2 (j := 51) (n := 0) rfl) (hz_wg wX10_compare_2 (j := 52) (n := 12) rfl) (by decide)
theorem dX10_compare_181 : decode cX10_compare 181 = .ok (.iload_n 3, 1) := dq_29 (hz_wg wX10_compare_2 (j := 53) (n := 29) rfl)
theorem dX10_compare_182 : decode cX10_compare 182 = .ok (.ifCond .eq 7, 3) := dq_153 (hz_wg wX10_compare_2 (j := 54) (n := 153) rfl) (hz_wg wX10_compare_2 (j := 55) (n := 0) rfl) (hz_wg wX10_compare_2 (j := 56) (n := 7) rfl) (by decide)
theorem dX10_compare_185 : decode cX10_compare 185 = .ok (.iconst 3, 1) := dq_6 (hz_wg wX10_compare_2 (j := 57) (n := 6) rfl)
theorem dX10_compare_186 : decode cX10_compare 186 = .ok (.goto 4, 3) := dq_167 (hz_wg wX10_compare_2 (j := 58) (n := 167) rfl) (hz_wg wX10_compare_2 (j := 59) (n := 0) rfl) (hz_wg wX10_compare_2 (j := 60) (n := 4) rfl) (by decide)
theorem dX10_compare_189 : decode cX10_compare 189 = .ok (.iconst 4, 1) := dq_7 (hz_wg wX10_compare_2 (j := 61) (n := 7) rfl)
theorem dX10_compare_190 : decode cX10_compare 190 = .ok (.istore 4, 2) := dq_54 (hz_wg wX10_compare_2 (j := 62) (n := 54) rfl) (hz_wg wX10_compare_2 (j := 63) (n := 4) rfl)
theorem dX10_compare_192 : decode cX10_compare 192 = .ok (.aload_n 0, 1) := dq_42 (hz_wg wX10_compare_3 (j := 0) (n := 42) rfl)
theorem dX10_compare_193 : decode cX10_compare 193 = .ok (.invokevirtual 277, 3) := dq_182 (hz_wg wX10_compare_3 (j := 1) (n := 182) rfl) (hz_wg wX10_compare_3 (j := 2) (n := 1) rfl) (hz_wg wX10_compare_3 (j := 3) (n := 21) rfl) rfl
theorem dX10_compare_196 : decode cX10_compare 196 = .ok (.istore 5, 2) := dq_54 (hz_wg wX10_compare_3 (j := 4) (n := 54) rfl) (hz_wg wX10_compare_3 (j := 5) (n := 5) rfl)
theorem dX10_compare_198 : decode cX10_compare 198 = .ok (.iload 5, 2) := dq_21 (hz_wg wX10_compare_3 (j := 6) (n := 21) rfl) (hz_wg wX10_compare_3 (j := 7) (n := 5) rfl)
theorem dX10_compare_200 : decode cX10_compare 200 = .ok (.invokestatic 270, 3) := dq_184 (hz_wg wX10_compare_3 (j := 8) (n := 184) rfl) (hz_wg wX10_compare_3 (j := 9) (n := 1) rfl) (hz_wg wX10_compare_3 (j := 10) (n := 14) rfl) rfl
theorem dX10_compare_203 : decode cX10_compare 203 = .ok (.ifCond .eq 38, 3) := dq_153 (hz_wg wX10_compare_3 (j := 11) (n := 153) rfl) (hz_wg wX10_compare_3 (j := 12) (n := 0) rfl) (hz_wg wX10_compare_3 (j := 13) (n := 38) rfl) (by decide)
theorem dX10_compare_206 : decode cX10_compare 206 = .ok (.aload_n 0, 1) := dq_42 (hz_wg wX10_compare_3 (j := 14) (n := 42) rfl)
theorem dX10_compare_207 : decode cX10_compare 207 = .ok (.dup, 1) := dq_89 (hz_wg wX10_compare_3 (j := 15) (n := 89) rfl)
theorem dX10_compare_208 : decode cX10_compare 208 = .ok (.getfield 245, 3) := dq_180 (hz_wg wX10_compare_3 (j := 16) (n := 180) rfl) (hz_wg wX10_compare_3 (j := 17) (n := 0) rfl) (hz_wg wX10_compare_3 (j := 18) (n := 245) rfl) rfl
theorem dX10_compare_211 : decode cX10_compare 211 = .ok (.aload_n 0, 1) := dq_42 (hz_wg wX10_compare_3 (j := 19) (n := 42) rfl)
theorem dX10_compare_212 : decode cX10_compare 212 = .ok (.getfield 252, 3) := dq_180 (hz_wg wX10_compare_3 (j := 20) (n := 180) rfl) (hz_wg wX10_compare_3 (j := 21) (n := 0) rfl) (hz_wg wX10_compare_3 (j := 22) (n := 252) rfl) rfl
theorem dX10_compare_215 : decode cX10_compare 215 = .ok (.iadd, 1) := dq_96 (hz_wg wX10_compare_3 (j := 23) (n := 96) rfl)
theorem dX10_compare_216 : decode cX10_compare 216 = .ok (.putfield 245, 3) := dq_181 (hz_wg wX10_compare_3 (j := 24) (n := 181) rfl) (hz_wg wX10_compare_3 (j := 25) (n := 0) rfl) (hz_wg wX10_compare_3 (j := 26) (n := 245) rfl) rfl
theorem dX10_compare_219 : decode cX10_compare 219 = .ok (.aload_n 0, 1) := dq_42 (hz_wg wX10_compare_3 (j := 27) (n := 42) rfl)
theorem dX10_compare_220 : decode cX10_compare 220 = .ok (.iload_n 1, 1) := dq_27 (hz_wg wX10_compare_3 (j := 28) (n := 27) rfl)
theorem dX10_compare_221 : decode cX10_compare 221 = .ok (.iconst 3, 1) := dq_6 (hz_wg wX10_compare_3 (j := 29) (n := 6) rfl)
theorem dX10_compare_222 : decode cX10_compare 222 = .ok (.isub, 1) := dq_100 (hz_wg wX10_compare_3 (j := 30) (n := 100) rfl)
theorem dX10_compare_223 : decode cX10_compare 223 = .ok (.iload 4, 2) := dq_21 (hz_wg wX10_compare_3 (j := 31) (n := 21) rfl) (hz_wg wX10_compare_3 (j := 32) (n := 4) rfl)
theorem dX10_compare_225 : decode cX10_compare 225 = .ok (.sipush 10000, 3) := dq_17 (hz_wg wX10_compare_3 (j := 33) (n := 17) rfl) (hz_wg wX10_compare_3 (j := 34) (n := 39) rfl) (hz_wg wX10_compare_3 (j := 35) (n := 16) rfl) (by decide)
theorem dX10_compare_228 : decode cX10_compare 228 = .ok (.iload 5, 2) := dq_21 (hz_wg wX10_compare_3 (j := 36) (n := 21) rfl) (hz_wg wX10_compare_3 (j := 37) (n := 5) rfl)
theorem dX10_compare_230 : decode cX10_compare 230 = .ok (.iadd, 1) := dq_96 (hz_wg wX10_compare_3 (j := 38) (n := 96) rfl)
theorem dX10_compare_231 : decode cX10_compare 231 = .ok (.iconst 3, 1) := dq_6 (hz_wg wX10_compare_3 (j := 39) (n := 6) rfl)
theorem dX10_compare_232 : decode cX10_compare 232 = .ok (.isub, 1) := dq_100 (hz_wg wX10_compare_3 (j := 40) (n := 100) rfl)
theorem dX10_compare_233 : decode cX10_compare 233 = .ok (.invokestatic 280, 3) := dq_184 (hz_wg wX10_compare_3 (j := 41) (n := 184) rfl) (hz_wg wX10_compare_3 (j := 42) (n := 1) rfl) (hz_wg wX10_compare_3 (j := 43) (n := 24) rfl) rfl
theorem dX10_compare_236 : decode cX10_compare 236 = .ok (.invokevirtual 284, 3) := dq_182 (hz_wg wX10_compare_3 (j := 44) (n := 182) rfl) (hz_wg wX10_compare_3 (j := 45) (n := 1) rfl) (hz_wg wX10_compare_3 (j := 46) (n := 28) rfl) rfl
theorem dX10_compare_239 : decode cX10_compare 239 = .ok (.iconst 1, 1) := dq_4 (hz_wg wX10_compare_3 (j := 47) (n := 4) rfl)
theorem dX10_compare_240 : decode cX10_compare 240 = .ok (.ireturn, 1) := dq_172 (hz_wg wX10_compare_3 (j := 48) (n := 172) rfl)
theorem dX10_compare_241 : decode cX10_compare 241 = .ok (.aload_n 0, 1) := dq_42 (hz_wg wX10_compare_3 (j := 49) (n := 42) rfl)
theorem dX10_compare_242 : decode cX10_compare 242 = .ok (.iconst 0, 1) := dq_3 (hz_wg wX10_compare_3 (j := 50) (n := 3) rfl)
theorem dX10_compare_243 : decode cX10_compare 243 = .ok (.sipush 9999, 3) := dq_17 (hz_wg wX10_compare_3 (j := 51) (n := 17) rfl) (hz_wg wX10_compare_3 (j := 52) (n := 39) rfl) (hz_wg wX10_compare_3 (j := 53) (n := 15) rfl) (by decide)
theorem dX10_compare_246 : decode cX10_compare 246 = .ok (.invokevirtual 287, 3) := dq_182 (hz_wg wX10_compare_3 (j := 54) (n := 182) rfl) (hz_wg wX10_compare_3 (j := 55) (n := 1) rfl) (hz_wg wX10_compare_3 (j := 56) (n := 31) rfl) rfl
theorem dX10_compare_249 : decode cX10_compare 249 = .ok (.ifCond .ne 5, 3) := dq_154 (hz_wg wX10_compare_3 (j := 57) (n := 154) rfl) (hz_wg wX10_compare_3 (j := 58) (n := 0) rfl) (hz_wg wX10_compare_3 (j := 59) (n := 5) rfl) (by decide)
theorem dX10_compare_252 : decode cX10_compare 252 = .ok (.iconst 0, 1) := dq_3 (hz_wg wX10_compare_3 (j := 60) (n := 3) rfl)
theorem dX10_compare_253 : decode cX10_compare 253 = .ok (.ireturn, 1) := dq_172 (hz_wg wX10_compare_3 (j := 61) (n := 172) rfl)
theorem dX10_compare_254 : decode cX10_compare 254 = .ok (.aload_n 0, 1) := dq_42 (hz_wg wX10_compare_3 (j := 62) (n := 42) rfl)
theorem dX10_compare_255 : decode cX10_compare 255 = .ok (.iload_n 1, 1) := dq_27 (hz_wg wX10_compare_3 (j := 63) (n := 27) rfl)
theorem dX10_compare_256 : decode cX10_compare 256 = .ok (.iconst 3, 1) := dq_6 (hz_wg wX10_compare_4 (j := 0) (n := 6) rfl)
theorem dX10_compare_257 : decode cX10_compare 257 = .ok (.isub, 1) := dq_100 (hz_wg wX10_compare_4 (j := 1) (n := 100) rfl)
theorem dX10_compare_258 : decode cX10_compare 258 = .ok (.iload 4, 2) := dq_21 (hz_wg wX10_compare_4 (j := 2) (n := 21) rfl) (hz_wg wX10_compare_4 (j := 3) (n := 4) rfl)
theorem dX10_compare_260 : decode cX10_compare 260 = .ok (.aload_n 0, 1) := dq_42 (hz_wg wX10_compare_4 (j := 4) (n := 42) rfl)
theorem dX10_compare_261 : decode cX10_compare 261 = .ok (.getfield 259, 3) := dq_180 (hz_wg wX10_compare_4 (j := 5) (n := 180) rfl) (hz_wg wX10_compare_4 (j := 6) (n := 1) rfl) (hz_wg wX10_compare_4 (j := 7) (n := 3) rfl) rfl
theorem dX10_compare_264 : decode cX10_compare 264 = .ok (.invokestatic 280, 3) := dq_184 (hz_wg wX10_compare_4 (j := 8) (n := 184) rfl) (hz_wg wX10_compare_4 (j := 9) (n := 1) rfl) (hz_wg wX10_compare_4 (j := 10) (n := 24) rfl) rfl
theorem dX10_compare_267 : decode cX10_compare 267 = .ok (.invokevirtual 284, 3) := dq_182 (hz_wg wX10_compare_4 (j := 11) (n := 182) rfl) (hz_wg wX10_compare_4 (j := 12) (n := 1) rfl) (hz_wg wX10_compare_4 (j := 13) (n := 28) rfl) rfl
theorem dX10_compare_270 : decode cX10_compare 270 = .ok (.iconst 1, 1) := dq_4 (hz_wg wX10_compare_4 (j := 14) (n := 4) rfl)
theorem dX10_compare_271 : decode cX10_compare 271 = .ok (.ireturn, 1) := dq_172 (hz_wg wX10_compare_4 (j := 15) (n := 172) rfl)