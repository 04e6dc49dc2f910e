def wLX9_hear_0 : List Nat := [42, 27, 182, 0, 200, 58, 5, 25, 5, 198, 0, 57, 25, 5, 180, 0, 204, 2, 159, 0, 48, 25, 5, 180, 0, 210, 2, 160, 0, 39, 25, 5, 180, 0, 212, 180, 0, 148, 154, 0, 28, 21, 4, 155, 0, 23, 42, 180, 0, 216, 16, 100, 162, 0, 14, 42, 25, 5, 21, 4, 182, 0, 219, 154]
def wLX9_hear_1 : List Nat := [0, 5, 2, 172, 25, 5, 180, 0, 223, 180, 0, 143, 54, 6, 25, 5, 180, 0, 212, 180, 0, 143, 54, 7, 25, 5, 180, 0, 196, 3, 28, 153, 0, 7, 4, 167, 0, 4, 3, 79, 25, 5, 180, 0, 196, 4, 29, 153, 0, 7, 4, 167, 0, 4, 3, 79, 25, 5, 180, 0, 196, 7, 42, 180]
def wLX9_hear_2 : List Nat := [0, 42, 21, 6, 21, 7, 25, 5, 180, 0, 193, 182, 0, 170, 79, 25, 5, 180, 0, 196, 8, 42, 180, 0, 42, 21, 7, 21, 6, 25, 5, 180, 0, 193, 182, 0, 170, 116, 79, 25, 5, 180, 0, 196, 16, 6, 42, 180, 0, 42, 21, 6, 21, 7, 25, 5, 180, 0, 193, 182, 0, 174, 79, 25]
def wLX9_hear_3 : List Nat := [5, 42, 180, 0, 94, 181, 0, 210, 25, 5, 42, 25, 5, 25, 5, 180, 0, 226, 182, 0, 229, 181, 0, 233, 42, 180, 0, 52, 42, 180, 0, 216, 25, 5, 83, 42, 89, 180, 0, 216, 4, 96, 181, 0, 216, 25, 5, 180, 0, 233, 172]
theorem wX9_hear_0 : (cX9_hear.data.toList.map UInt8.toNat).drop 0 = wLX9_hear_0 ++ (wLX9_hear_1 ++ (wLX9_hear_2 ++ (wLX9_hear_3 ++ ([])))) := by decide +kernel
theorem wX9_hear_1 : (cX9_hear.data.toList.map UInt8.toNat).drop 64 = wLX9_hear_1 ++ (wLX9_hear_2 ++ (wLX9_hear_3 ++ ([]))) := hz_wn wX9_hear_0 rfl
theorem wX9_hear_2 : (cX9_hear.data.toList.map UInt8.toNat).drop 128 = wLX9_hear_2 ++ (wLX9_hear_3 ++ ([])) := hz_wn wX9_hear_1 rfl
theorem wX9_hear_3 : (cX9_hear.data.toList.map UInt8.toNat).drop 192 = wLX9_hear_3 ++ ([]) := hz_wn wX9_hear_2 rfl
theorem dX9_hear_0 : decode cX9_hear 0 = .ok (.aload_n 0, 1) := dq_42 (hz_wg wX9_hear_0 (j := 0) (n := 42) rfl)
theorem dX9_hear_1 : decode cX9_hear 1 = .ok (.iload_n 1, 1) := dq_27 (hz_wg wX9_hear_0 (j := 1) (n := 27) rfl)
theorem dX9_hear_2 : decode cX9_hear 2 = .ok (.invokevirtual 200, 3) := dq_182 (hz_wg wX9_hear_0 (j := 2) (n := 182) rfl) (hz_wg wX9_hear_0 (j := 3) (n := 0) rfl) (hz_wg wX9_hear_0 (j := 4) (n := 200) rfl) rfl
theorem dX9_hear_5 : decode cX9_hear 5 = .ok (.astore 5, 2) := dq_58 (hz_wg wX9_hear_0 (j := 5) (n := 58) rfl) (hz_wg wX9_hear_0 (j := 6) (n := 5) rfl)
theorem dX9_hear_7 : decode cX9_hear 7 = .ok (.aload 5, 2) := dq_25 (hz_wg wX9_hear_0 (j := 7) (n := 25) rfl) (hz_wg wX9_hear_0 (j := 8) (n := 5) rfl)
theorem dX9_hear_9 : decode cX9_hear 9 = .ok (.ifnull 57, 3) := dq_198 (hz_wg wX9_hear_0 (j := 9) (n := 198) rfl) (hz_wg wX9_hear_0 (j := 10) (n := 0) rfl) (hz_wg wX9_hear_0 (j := 11) (n := 57) rfl) (by decide)
theorem dX9_hear_12 : decode cX9_hear 12 = .ok (.aload 5, 2) := dq_25 (hz_wg wX9_hear_0 (j := 12) (n := 25) rfl) (hz_wg wX9_hear_0 (j := 13) (n := 5) rfl)
theorem dX9_hear_14 : decode cX9_hear 14 = .ok (.getfield 204, 3) := dq_180 (hz_wg wX9_hear_0 (j := 14) (n := 180) rfl) (hz_wg wX9_hear_0 (j := 15) (n := 0) rfl) (hz_wg wX9_hear_0 (j := 16) (n := 204) rfl) rfl
theorem dX9_hear_17 : decode cX9_hear 17 = .ok (.iconst (-1), 1) := dq_2 (hz_wg wX9_hear_0 (j := 17) (n := 2) rfl)
theorem dX9_hear_18 : decode cX9_hear 18 = .ok (.if_icmp .eq 48, 3) := dq_159 (hz_wg wX9_hear_0 (j := 18) (n := 159) rfl) (hz_wg wX9_hear_0 (j := 19) (n := 0) rfl) (hz_wg wX9_hear_0 (j := 20) (n := 48) rfl) (by decide)
theorem dX9_hear_21 : decode cX9_hear 21 = .ok (.aload 5, 2) := dq_25 (hz_wg wX9_hear_0 (j := 21) (n := 25) rfl) (hz_wg wX9_hear_0 (j := 22) (n := 5) rfl)
theorem dX9_hear_23 : decode cX9_hear 23 = .ok (.getfield 210, 3) := dq_180 (hz_wg wX9_hear_0 (j := 23) (n := 180) rfl) (hz_wg wX9_hear_0 (j := 24) (n := 0) rfl) (hz_wg wX9_hear_0 (j := 25) (n := 210) rfl) rfl
theorem dX9_hear_26 : decode cX9_hear 26 = .ok (.iconst (-1), 1) := dq_2 (hz_wg wX9_hear_0 (j := 26) (n := 2) rfl)
theorem dX9_hear_27 : decode cX9_hear 27 = .ok (.if_icmp .ne 39, 3) := dq_160 (hz_wg wX9_hear_0 (j := 27) (n := 160) rfl) (hz_wg wX9_hear_0 (j := 28) (n := 0) rfl) (hz_wg wX9_hear_0 (j := 29) (n := 39) rfl) (by decide)
theorem dX9_hear_30 : decode cX9_hear 30 = .ok (.aload 5, 2) := dq_25 (hz_wg wX9_hear_0 (j := 30) (n := 25) rfl) (hz_wg wX9_hear_0 (j := 31) (n := 5) rfl)
theorem dX9_hear_32 : decode cX9_hear 32 = .ok (.getfield 212, 3) := dq_180 (hz_wg wX9_hear_0 (j := 32) (n := 180) rfl) (hz_wg wX9_hear_0 (j := 33) (n := 0) rfl) (hz_wg wX9_hear_0 (j := 34) (n := 212) rfl) rfl
theorem dX9_hear_35 : decode cX9_hear 35 = .ok (.getfield 148, 3) := dq_180 (hz_wg wX9_hear_0 (j := 35) (n := 180) rfl) (hz_wg wX9_hear_0 (j := 36) (n := 0) rfl) (hz_wg wX9_hear_0 (j := 37) (n := 148) rfl) rfl
theorem dX9_hear_38 : decode cX9_hear 38 = .ok (.ifCond .ne 28, 3) := dq_154 (hz_wg wX9_hear_0 (j := 38) (n := 154) rfl) (hz_wg wX9_hear_0 (j := 39) (n := 0) rfl) (hz_wg wX9_hear_0 (j := 40) (n := 28) rfl) (by decide)
theorem dX9_hear_41 : decode cX9_hear 41 = .ok (.iload 4, 2) := dq_21 (hz_wg wX9_hear_0 (j := 41) (n := 21) rfl) (hz_wg wX9_hear_0 (j := 42) (n := 4) rfl)
theorem dX9_hear_43 : decode cX9_hear 43 = .ok (.ifCond .lt 23, 3) := dq_155 (hz_wg wX9_hear_0 (j := 43) (n := 155) rfl) (hz_wg wX9_hear_0 (j := 44) (n := 0) rfl) (hz_wg wX9_hear_0 (j := 45) (n := 23) rfl) (by decide)
theorem dX9_hear_46 : decode cX9_hear 46 = .ok (.aload_n 0, 1) := dq_42 (hz_wg wX9_hear_0 (j := 46) (n := 42) rfl)
theorem dX9_hear_47 : decode cX9_hear 47 = .ok (.getfield 216, 3) := dq_180 (hz_wg wX9_hear_0 (j := 47) (n := 180) rfl) (hz_wg wX9_hear_0 (j := 48) (n := 0) rfl) (hz_wg wX9_hear_0 (j := 49) (n := 216) rfl) rfl
theorem dX9_hear_50 : decode cX9_hear 50 = .ok (.bipush 100, 2) := dq_16 (hz_wg wX9_hear_0 (j := 50) (n := 16) rfl) (hz_wg wX9_hear_0 (j := 51) (n := 100) rfl) (by decide)
theorem dX9_hear_52 : decode cX9_hear 52 = .ok (.if_icmp .ge 14, 3) := dq_162 (hz_wg wX9_hear_0 (j := 52) (n := 162) rfl) (hz_wg wX9_hear_0 (j := 53) (n := 0) rfl) (hz_wg wX9_hear_0 (j := 54) (n := 14) rfl) (by decide)
theorem dX9_hear_55 : decode cX9_hear 55 = .ok (.aload_n 0, 1) := dq_42 (hz_wg wX9_hear_0 (j := 55) (n := 42) rfl)
theorem dX9_hear_56 : decode cX9_hear 56 = .ok (.aload 5, 2) := dq_25 (hz_wg wX9_hear_0 (j := 56) (n := 25) rfl) (hz_wg wX9_hear_0 (j := 57) (n := 5) rfl)
theorem dX9_hear_58 : decode cX9_hear 58 = .ok (.iload 4, 2) := dq_21 (hz_wg wX9_hear_0 (j := 58) (n := 21) rfl) (hz_wg wX9_hear_0 (j := 59) (n := 4) rfl)
theorem dX9_hear_60 : decode cX9_hear 60 = .ok (.invokevirtual 219, 3) := dq_182 (hz_wg wX9_hear_0 (j := 60) (n := 182) rfl) (hz_wg wX9_hear_0 (j := 61) (n := 0) rfl) (hz_wg wX9_hear_0 (j := 62) (n := 219) rfl) rfl
theorem dX9_hear_63 : decode cX9_hear 63 = .ok (.ifCond .ne 5, 3) := dq_154 (hz_wg wX9_hear_0 (j := 63) (n := 154) rfl) (hz_wg wX9_hear_1 (j := 0) (n := 0) rfl) (hz_wg wX9_hear_1 (j := 1) (n := 5) rfl) (by decide)
theorem dX9_hear_66 : decode cX9_hear 66 = .ok (.iconst (-1), 1) := dq_2 (hz_wg wX9_hear_1 (j := 2) (n := 2) rfl)
theorem dX9_hear_67 : decode cX9_hear 67 = .ok (.ireturn, 1) := dq_172 (hz_wg wX9_hear_1 (j := 3) (n := 172) rfl)
theorem dX9_hear_68 : decode cX9_hear 68 = .ok (.aload 5, 2) := dq_25 (hz_wg wX9_hear_1 (j := 4) (n := 25) rfl) (hz_wg wX9_hear_1 (j := 5) (n := 5) rfl)
theorem dX9_hear_70 : decode cX9_hear 70 = .ok (.getfield 223, 3) := dq_180 (hz_wg wX9_hear_1 (j := 6) (n := 180) rfl) (hz_wg wX9_hear_1 (j := 7) (n := 0) rfl) (hz_wg wX9_hear_1 (j := 8) (n := 223) rfl) rfl
theorem dX9_hear_73 : decode cX9_hear 73 = .ok (.getfield 143, 3) := dq_180 (hz_wg wX9_hear_1 (j := 9) (n := 180) rfl) (hz_wg wX9_hear_1 (j := 10) (n := 0) rfl) (hz_wg wX9_hear_1 (j := 11) (n := 143) rfl) rfl
theorem dX9_hear_76 : decode cX9_hear 76 = .ok (.istore 6, 2) := dq_54 (hz_wg wX9_hear_1 (j := 12) (n := 54) rfl) (hz_wg wX9_hear_1 (j := 13) (n := 6) rfl)
theorem dX9_hear_78 : decode cX9_hear 78 = .ok (.aload 5, 2) := dq_25 (hz_wg wX9_hear_1 (j := 14) (n := 25) rfl) (hz_wg wX9_hear_1 (j := 15) (n := 5) rfl)
theorem dX9_hear_80 : decode cX9_hear 80 = .ok (.getfield 212, 3) := dq_180 (hz_wg wX9_hear_1 (j := 16) (n := 180) rfl) (hz_wg wX9_hear_1 (j := 17) (n := 0) rfl) (hz_wg wX9_hear_1 (j := 18) (n := 212) rfl) rfl
theorem dX9_hear_83 : decode cX9_hear 83 = .ok (.getfield 143, 3) := dq_180 (hz_wg wX9_hear_1 (j := 19) (n := 180) rfl) (hz_wg wX9_hear_1 (j := 20) (n := 0) rfl) (hz_wg wX9_hear_1 (j := 21) (n := 143) rfl) rfl
theorem dX9_hear_86 : decode cX9_hear 86 = .ok (.istore 7, 2) := dq_54 (hz_wg wX9_hear_1 (j := 22) (n := 54) rfl) (hz_wg wX9_hear_1 (j := 23) (n := 7) rfl)
theorem dX9_hear_88 : decode cX9_hear 88 = .ok (.aload 5, 2) := dq_25 (hz_wg wX9_hear_1 (j := 24) (n := 25) rfl) (hz_wg wX9_hear_1 (j := 25) (n := 5) rfl)
theorem dX9_hear_90 : decode cX9_hear 90 = .ok (.getfield 196, 3) := dq_180 (hz_wg wX9_hear_1 (j := 26) (n := 180) rfl) (hz_wg wX9_hear_1 (j := 27) (n := 0) rfl) (hz_wg wX9_hear_1 (j := 28) (n := 196) rfl) rfl
theorem dX9_hear_93 : decode cX9_hear 93 = .ok (.iconst 0, 1) := dq_3 (hz_wg wX9_hear_1 (j := 29) (n := 3) rfl)
theorem dX9_hear_94 : decode cX9_hear 94 = .ok (.iload_n 2, 1) := dq_28 (hz_wg wX9_hear_1 (j := 30) (n := 28) rfl)
theorem dX9_hear_95 : decode cX9_hear 95 = .ok (.ifCond .eq 7, 3) := dq_153 (hz_wg wX9_hear_1 (j := 31) (n := 153) rfl) (hz_wg wX9_hear_1 (j := 32) (n := 0) rfl) (hz_wg wX9_hear_1 (j := 33) (n := 7) rfl) (by decide)
theorem dX9_hear_98 : decode cX9_hear 98 = .ok (.iconst 1, 1) := dq_4 (hz_wg wX9_hear_1 (j := 34) (n := 4) rfl)
theorem dX9_hear_99 : decode cX9_hear 99 = .ok (.goto 4, 3) := dq_167 (hz_wg wX9_hear_1 (j := 35) (n := 167) rfl) (hz_wg wX9_hear_1 (j := 36) (n := 0) rfl) (hz_wg wX9_hear_1 (j := 37) (n := 4) rfl) (by decide)
theorem dX9_hear_102 : decode cX9_hear 102 = .ok (.iconst 0, 1) := dq_3 (hz_wg wX9_hear_1 (j := 38) (n := 3) rfl)
theorem dX9_hear_103 : decode cX9_hear 103 = .ok (.iastore, 1) := dq_79 (hz_wg wX9_hear_1 (j := 39) (n := 79) rfl)
theorem dX9_hear_104 : decode cX9_hear 104 = .ok (.aload 5, 2) := dq_25 (hz_wg wX9_hear_1 (j := 40) (n := 25) rfl) (hz_wg wX9_hear_1 (j := 41) (n := 5) rfl)
theorem dX9_hear_106 : decode cX9_hear 106 = .ok (.getfield 196, 3) := dq_180 (hz_wg wX9_hear_1 (j := 42) (n := 180) rfl) (hz_wg wX9_hear_1 (j := 43) (n := 0) rfl) (hz_wg wX9_hear_1 (j := 44) (n := 196) rfl) rfl
theorem dX9_hear_109 : decode cX9_hear 109 = .ok (.iconst 1, 1) := dq_4 (hz_wg wX9_hear_1 (j := 45) (n := 4) rfl)
theorem dX9_hear_110 : decode cX9_hear 110 = .ok (.iload_n 3, 1) := dq_29 (hz_wg wX9_hear_1 (j := 46) (n := 29) rfl)
theorem dX9_hear_111 : decode cX9_hear 111 = .ok (.ifCond .eq 7, 3) := dq_153 (hz_wg wX9_hear_1 (j := 47) (n := 153) rfl) (hz_wg wX9_hear_1 (j := 48) (n := 0) rfl) (hz_wg wX9_hear_1 (j := 49) (n := 7) rfl) (by decide)
theorem dX9_hear_114 : decode cX9_hear 114 = .ok (.iconst 1, 1) := dq_4 (hz_wg wX9_hear_1 (j := 50) (n := 4) rfl)
theorem dX9_hear_115 : decode cX9_hear 115 = .ok (.goto 4, 3) := dq_167 (hz_wg wX9_hear_1 (j := 51) (n := 167) rfl) (hz_wg wX9_hear_1 (j := 52) (n := 0) rfl) (hz_wg wX9_hear_1 (j := 53) (n := 4) rfl) (by decide)
theorem dX9_hear_118 : decode cX9_hear 118 = .ok (.iconst 0, 1) := dq_3 (hz_wg wX9_hear_1 (j := 54) (n := 3) rfl)
theorem dX9_hear_119 : decode cX9_hear 119 = .ok (.iastore, 1) := dq_79 (hz_wg wX9_hear_1 (j := 55) (n := 79) rfl)
theorem dX9_hear_120 : decode cX9_hear 120 = .ok (.aload 5, 2) := dq_25 (hz_wg wX9_hear_1 (j := 56) (n := 25) rfl) (hz_wg wX9_hear_1 (j := 57) (n := 5) rfl)
theorem dX9_hear_122 : decode cX9_hear 122 = .ok (.getfield 196, 3) := dq_180 (hz_wg wX9_hear_1 (j := 58) (n := 180) rfl) (hz_wg wX9_hear_1 (j := 59) (n := 0) rfl) (hz_wg wX9_hear_1 (j := 60) (n := 196) rfl) rfl
theorem dX9_hear_125 : decode cX9_hear 125 = .ok (.iconst 4, 1) := dq_7 (hz_wg wX9_hear_1 (j := 61) (n := 7) rfl)
theorem dX9_hear_126 : decode cX9_hear 126 = .ok (.aload_n 0, 1) := dq_42 (hz_wg wX9_hear_1 (j := 62) (n := 42) rfl)
theorem dX9_hear_127 : decode cX9_hear 127 = .ok (.getfield 42, 3) := dq_180 (hz_wg wX9_hear_1 (j := 63) (n := 180) rfl) (hz_wg wX9_hear_2 (j := 0) (n := 0) rfl) (hz_wg wX9_hear_2 (j := 1) (n := 42) rfl) rfl
theorem dX9_hear_130 : decode cX9_hear 130 = .ok (.iload 6, 2) := dq_21 (hz_wg wX9_hear_2 (j := 2) (n := 21) rfl) (hz_wg wX9_hear_2 (j := 3) (n := 6) rfl)
theorem dX9_hear_132 : decode cX9_hear 132 = .ok (.iload 7, 2) := dq_21 (hz_wg wX9_hear_2 (j := 4) (n := 21) rfl) (hz_wg wX9_hear_2 (j := 5) (n := 7) rfl)
theorem dX9_hear_134 : decode cX9_hear 134 = .ok (.aload 5, 2) := dq_25 (hz_wg wX9_hear_2 (j := 6) (n := 25) rfl) (hz_wg wX9_hear_2 (j := 7) (n := 5) rfl)
theorem dX9_hear_136 : decode cX9_hear 136 = .ok (.getfield 193, 3) := dq_180 (hz_wg wX9_hear_2 (j := 8) (n := 180) rfl) (hz_wg wX9_hear_2 (j := 9) (n := 0) rfl) (hz_wg wX9_hear_2 (j := 10) (n := 193) rfl) rfl
theorem dX9_hear_139 : decode cX9_hear 139 = .ok (.invokevirtual 170, 3) := dq_182 (hz_wg wX9_hear_2 (j := 11) (n := 182) rfl) (hz_wg wX9_hear_2 (j := 12) (n := 0) rfl) (hz_wg wX9_hear_2 (j := 13) (n := 170) rfl) rfl
theorem dX9_hear_142 : decode cX9_hear 142 = .ok (.iastore, 1) := dq_79 (hz_wg wX9_hear_2 (j := 14) (n := 79) rfl)
theorem dX9_hear_143 : decode cX9_hear 143 = .ok (.aload 5, 2) := dq_25 (hz_wg wX9_hear_2 (j := 15) (n := 25) rfl) (hz_wg wX9_hear_2 (j := 16) (n := 5) rfl)
theorem dX9_hear_145 : decode cX9_hear 145 = .ok (.getfield 196, 3) := dq_180 (hz_wg wX9_hear_2 (j := 17) (n := 180) rfl) (hz_wg wX9_hear_2 (j := 18) (n := 0) rfl) (hz_wg wX9_hear_2 (j := 19) (n := 196) rfl) rfl
theorem dX9_hear_148 : decode cX9_hear 148 = .ok (.iconst 5, 1) := dq_8 (hz_wg wX9_hear_2 (j := 20) (n := 8) rfl)
theorem dX9_hear_149 : decode cX9_hear 149 = .ok (.aload_n 0, 1) := dq_42 (hz_wg wX9_hear_2 (j := 21) (n := 42) rfl)
theorem dX9_hear_150 : decode cX9_hear 150 = .ok (.getfield 42, 3) := dq_180 (hz_wg wX9_hear_2 (j := 22) (n := 180) rfl) (hz_wg wX9_hear_2 (j := 23) (n := 0) rfl) (hz_wg wX9_hear_2 (j := 24) (n := 42) rfl) rfl
theorem dX9_hear_153 : decode cX9_hear 153 = .ok (.iload 7, 2) := dq_21 (hz_wg wX9_hear_2 (j := 25) (n := 21) rfl) (hz_wg wX9_hear_2 (j := 26) (n := 7) rfl)
theorem dX9_hear_155 : decode cX9_hear 155 = .ok (.iload 6, 2) := dq_21 (hz_wg wX9_hear_2 (j := 27) (n := 21) rfl) (hz_wg wX9_hear_2 (j := 28) (n := 6) rfl)
theorem dX9_hear_157 : decode cX9_hear 157 = .ok (.aload 5, 2) := dq_25 (hz_wg wX9_hear_2 (j := 29) (n := 25) rfl) (hz_wg wX9_hear_2 (j := 30) (n := 5) rfl)
theorem dX9_hear_159 : decode cX9_hear 159 = .ok (.getfield 193, 3) := dq_180 (hz_wg wX9_hear_2 (j := 31) (n := 180) rfl) (hz_wg wX9_hear_2 (j := 32) (n := 0) rfl) (hz_wg wX9_hear_2 (j := 33) (n := 193) rfl) rfl
theorem dX9_hear_162 : decode cX9_hear 162 = .ok (.invokevirtual 170, 3) := dq_182 (hz_wg wX9_hear_2 (j := 34) (n := 182) rfl) (hz_wg wX9_hear_2 (j := 35) (n := 0) rfl) (hz_wg wX9_hear_2 (j := 36) (n := 170) rfl) rfl
theorem dX9_hear_165 : decode cX9_hear 165 = .ok (.ineg, 1) := dq_116 (hz_wg wX9_hear_2 (j := 37) (n := 116) rfl)
theorem dX9_hear_166 : decode cX9_hear 166 = .ok (.iastore, 1) := dq_79 (hz_wg wX9_hear_2 (j := 38) (n := 79) rfl)
theorem dX9_hear_167 : decode cX9_hear 167 = .ok (.aload 5, 2) := dq_25 (hz_wg wX9_hear_2 (j := 39) (n := 25) rfl) (hz_wg wX9_hear_2 (j := 40) (n := 5) rfl)
theorem dX9_hear_169 : decode cX9_hear 169 = .ok (.getfield 196, 3) := dq_180 (hz_wg wX9_hear_2 (j := 41) (n := 180) rfl) (hz_wg wX9_hear_2 (j := 42) (n := 0) rfl) (hz_wg wX9_hear_2 (j := 43) (n := 196) rfl) rfl
theorem dX9_hear_172 : decode cX9_hear 172 = .ok (.bipush 6, 2) := dq_16 (hz_wg wX9_hear_2 (j := 44) (n := 16) rfl) (hz_wg wX9_hear_2 (j := 45) (n := 6) rfl) (by decide)
theorem dX9_hear_174 : decode cX9_hear 174 = .ok (.aload_n 0, 1) := dq_42 (hz_wg wX9_hear_2 (j := 46) (n := 42) rfl)
theorem dX9_hear_175 : decode cX9_hear 175 = .ok (.getfield 42, 3) := dq_180 (hz_wg wX9_hear_2 (j := 47) (n := 180) rfl) (hz_wg wX9_hear_2 (j := 48) (n := 0) rfl) (hz_wg wX9_hear_2 (j := 49) (n := 42) rfl) rfl
theorem dX9_hear_178 : decode cX9_hear 178 = .ok (.iload 6, 2) := dq_21 (hz_wg wX9_hear_2 (j := 50) (n := 21) rfl) (hz_wg wX9_hear_2 (j := 51) (n := 6) rfl)
theorem dX9_hear_180 : decode cX9_hear 180 = .ok (.iload 7, 2) := dq_21 (hz_wg wX9_hear_2 (j := 52) (n := 21) rfl) (hz_wg wX9_hear_2 (j := 53) (n := 7) rfl)
theorem dX9_hear_182 : decode cX9_hear 182 = .ok (.aload 5, 2) := dq_25 (hz_wg wX9_hear_2 (j := 54) (n := 25) rfl) (hz_wg wX9_hear_2 (j := 55) (n := 5) rfl)
theorem dX9_hear_184 : decode cX9_hear 184 = .ok (.getfield 193, 3) := dq_180 (hz_wg wX9_hear_2 (j := 56) (n := 180) rfl) (hz_wg wX9_hear_2 (j := 57) (n := 0) rfl) (hz_wg wX9_hear_2 (j := 58) (n := 193) rfl) rfl
theorem dX9_hear_187 : decode cX9_hear 187 = .ok (.invokevirtual 174, 3) := dq_182 (hz_wg wX9_hear_2 (j := 59) (n := 182) rfl) (hz_wg wX9_hear_2 (j := 60) (n := 0) rfl) (hz_wg wX9_hear_2 (j := 61) (n := 174) rfl) rfl
theorem dX9_hear_190 : decode cX9_hear 190 = .ok (.iastore, 1) := dq_79 (hz_wg wX9_hear_2 (j := 62) (n := 79) rfl)
theorem dX9_hear_191 : decode cX9_hear 191 = .ok (.aload 5, 2) := dq_25 (hz_wg wX9_hear_2 (j := 63) (n := 25) rfl) (hz_wg wX9_hear_3 (j := 0) (n := 5) rfl)
theorem dX9_hear_193 : decode cX9_hear 193 = .ok (.aload_n 0, 1) := dq_42 (hz_wg wX9_hear_3 (j := 1) (n := 42) rfl)
theorem dX9_hear_194 : decode cX9_hear 194 = .ok (.getfield 94, 3) := dq_180 (hz_wg wX9_hear_3 (j := 2) (n := 180) rfl) (hz_wg wX9_hear_3 (j := 3) (n := 0) rfl) (hz_wg wX9_hear_3 (j := 4) (n := 94) rfl) rfl
theorem dX9_hear_197 : decode cX9_hear 197 = .ok (.putfield 210, 3) := dq_181 (hz_wg wX9_hear_3 (j := 5) (n := 181) rfl) (hz_wg wX9_hear_3 (j := 6) (n := 0) rfl) (hz_wg wX9_hear_3 (j := 7) (n := 210) rfl) rfl
theorem dX9_hear_200 : decode cX9_hear 200 = .ok (.aload 5, 2) := dq_25 (hz_wg wX9_hear_3 (j := 8) (n := 25) rfl) (hz_wg wX9_hear_3 (j := 9) (n := 5) rfl)
theorem dX9_hear_202 : decode cX9_hear 202 = .ok (.aload_n 0, 1) := dq_42 (hz_wg wX9_hear_3 (j := 10) (n := 42) rfl)
theorem dX9_hear_203 : decode cX9_hear 203 = .ok (.aload 5, 2) := dq_25 (hz_wg wX9_hear_3 (j := 11) (n := 25) rfl) (hz_wg wX9_hear_3 (j := 12) (n := 5) rfl)
theorem dX9_hear_205 : decode cX9_hear 205 = .ok (.aload 5, 2) := dq_25 (hz_wg wX9_hear_3 (j := 13) (n := 25) rfl) (hz_wg wX9_hear_3 (j := 14) (n := 5) rfl)
theorem dX9_hear_207 : decode cX9_hear 207 = .ok (.getfield 226, 3) := dq_180 (hz_wg wX9_hear_3 (j := 15) (n := 180) rfl) (hz_wg wX9_hear_3 (j := 16) (n := 0) rfl) (hz_wg wX9_hear_3 (j := 17) (n := 226) rfl) rfl
theorem dX9_hear_210 : decode cX9_hear 210 = .ok (.invokevirtual 229, 3) := dq_182 (hz_wg wX9_hear_3 (j := 18) (n := 182) rfl) (hz_wg wX9_hear_3 (j := 19) (n := 0) rfl) (hz_wg wX9_hear_3 (j := 20) (n := 229) rfl) rfl
theorem dX9_hear_213 : decode cX9_hear 213 = .ok (.putfield 233, 3) := dq_181 (hz_wg wX9_hear_3 (j := 21) (n := 181) rfl) (hz_wg wX9_hear_3 (j := 22) (n := 0) rfl) (hz_wg wX9_hear_3 (j := 23) (n := 233) rfl) rfl
theorem dX9_hear_216 : decode cX9_hear 216 = .ok (.aload_n 0, 1) := dq_42 (hz_wg wX9_hear_3 (j := 24) (n := 42) rfl)
theorem dX9_hear_217 : decode cX9_hear 217 = .ok (.getfield 52, 3) := dq_180 (hz_wg wX9_hear_3 (j := 25) (n := 180) rfl) (hz_wg wX9_hear_3 (j := 26) (n := 0) rfl) (hz_wg wX9_hear_3 (j := 27) (n := 52) rfl) rfl
theorem dX9_hear_220 : decode cX9_hear 220 = .ok (.aload_n 0, 1) := dq_42 (hz_wg wX9_hear_3 (j := 28) (n := 42) rfl)
theorem dX9_hear_221 : decode cX9_hear 221 = .ok (.getfield 216, 3) := dq_180 (hz_wg wX9_hear_3 (j := 29) (n := 180) rfl) (hz_wg wX9_hear_3 (j := 30) (n := 0) rfl) (hz_wg wX9_hear_3 (j := 31) (n := 216) rfl) rfl
theorem dX9_hear_224 : decode cX9_hear 224 = .ok (.aload 5, 2) := dq_25 (hz_wg wX9_hear_3 (j := 32) (n := 25) rfl) (hz_wg wX9_hear_3 (j := 33) (n := 5) rfl)
theorem dX9_hear_226 : decode cX9_hear 226 = .ok (.aastore, 1) := dq_83 (hz_wg wX9_hear_3 (j := 34) (n := 83) rfl)
theorem dX9_hear_227 : decode cX9_hear 227 = .ok (.aload_n 0, 1) := dq_42 (hz_wg wX9_hear_3 (j := 35) (n := 42) rfl)
theorem dX9_hear_228 : decode cX9_hear 228 = .ok (.dup, 1) := dq_89 (hz_wg wX9_hear_3 (j := 36) (n := 89) rfl)
theorem dX9_hear_229 : decode cX9_hear 229 = .ok (.getfield 216, 3) := dq_180 (hz_wg wX9_hear_3 (j := 37) (n := 180) rfl) (hz_wg wX9_hear_3 (j := 38) (n := 0) rfl) (hz_wg wX9_hear_3 (j := 39) (n := 216) rfl) rfl
theorem dX9_hear_232 : decode cX9_hear 232 = .ok (.iconst 1, 1) := dq_4 (hz_wg wX9_hear_3 (j := 40) (n := 4) rfl)
theorem dX9_hear_233 : decode cX9_hear 233 = .ok (.iadd, 1) := dq_96 (hz_wg wX9_hear_3 (j := 41) (n := 96) rfl)
theorem dX9_hear_234 : decode cX9_hear 234 = .ok (.putfield 216, 3) := dq_181 (hz_wg wX9_hear_3 (j := 42) (n := 181) rfl) (hz_wg wX9_hear_3 (j := 43) (n := 0) rfl) (hz_wg wX9_hear_3 (j := 44) (n := 216) rfl) rfl
theorem dX9_hear_237 : decode cX9_hear 237 = .ok (.aload 5, 2) := dq_25 (hz_wg wX9_hear_3 (j := 45) (n := 25) rfl) (hz_wg wX9_hear_3 (j := 46) (n := 5) rfl)
theorem dX9_hear_239 : decode cX9_hear 239 = .ok (.getfield 233, 3) := dq_180 (hz_wg wX9_hear_3 (j := 47) (n := 180) rfl) (hz_wg wX9_hear_3 (j := 48) (n := 0) rfl) (hz_wg wX9_hear_3 (j := 49) (n := 233) rfl) rfl
theorem dX9_hear_242 : decode cX9_hear 242 = .ok (.ireturn, 1) := dq_172 (hz_wg wX9_hear_3 (j := 50) (n := 172) rfl)
set_option maxHeartbeats 4000000 in
set_option maxRecDepth 100000 in
theorem t_X9_hear (l : Launch) (dC : Nat → ClassId) (dI : Nat → Nat → Nat) (dA : Nat → ClassId) (L : List Nat) (h : hx_h) (sz : Nat) (x : Nat) (i1 : Int32) (i2 : Int32) (i3 : Int32) (i4 : Int32) (hT : hx_T T_tb L h) (gx : hx_g L h x 9) (qp : Nat) (gqp : hx_g L h qp 44) (f_x_7 : h.2.2 x 7 = some qp) (qc : Nat) (gqc : hx_g L h qc 45) (f_x_10 : h.2.2 x 10 = some qc) (qh : Nat) (gqh : hx_g L h qh 46) (f_x_12 : h.2.2 x 12 = some qh) (pf_x_8 : ∀ j : Nat, (j : Int) < (h.2.1 x 8).toInt → h.2.2 qp j ≠ none) (pf_x_11 : ∀ j : Nat, (j : Int) < (h.2.1 x 11).toInt → h.2.2 qc j ≠ none) (pf_x_13 : ∀ j : Nat, (j : Int) < (h.2.1 x 13).toInt → h.2.2 qh j ≠ none) : Met l yX9_hear (Cond.code yX9_hear cX9_hear 8 (some .int) :: hx_all) ({ frames := 4, cells := 0, slots := 0, locals := 92 }) (va_Pc [.ref x, .int i1, .int i2, .int i3, .int i4] (hx_B T_tb (P_ty dA) (dC, dI) vwCl L h sz)) (va_Qi (fun (r : Int32) (u : List Nat × hx_h) => (True) ∧ hx_T T_tb u.1 u.2 ∧ hx_S T_tb [(2, 11), (2, 12), (9, 13), (19, 0), (20, 0), (21, 0), (46, 0), (47, 0)] L h u.1 u.2 ∧ (∀ j : Nat, (j : Int) < (u.2.2.1 x 13).toInt → u.2.2.2 qh j ≠ none)) (hx_E T_tb (P_ty dA) (dC, dI) vwCl (hx_A L sz)) (hx_A L sz)) 0 0 (hx_A L sz) := by
  refine hx_met (lv := [(0, .ref x), (1, .int i1), (2, .int i2), (3, .int i3), (4, .int i4)]) (by decide +kernel) rfl (Nat.le_of_ble_eq_true rfl) rfl ?_
  intro p e s m below meth c hx hb hml hr hlk hts0 hown hin hsz hW ls hl
  have hts : ∀ w ∈ hx_all, w.before _ s = true := fun w hw => hts0 w (List.mem_cons_of_mem _ hw)
  have hown : s.vm.findClass "SmallCourt" = some m.cls := hown
  have hM : hx_S T_tb [(2, 11), (2, 12), (9, 13), (19, 0), (20, 0), (21, 0), (46, 0), (47, 0)] L h L h := hx_S.rf
  refine lv_aload_n hx hb dX9_hear_0 rfl (lv_at hl 0 rfl) ?_
  refine lv_iload_n hx hb dX9_hear_1 rfl (lv_at hl 1 rfl) ?_
  refine hx_goq (hx_runV (As := [.int i1]) (rest := []) ⟨hx, hb, hml, hown, hts⟩ hW (gx.S hM) tt_9 (T := TX9) (N := 20) rfl (t_X9_claimAt l dC dI dA L h s.heap.size x i1 hT (gx.S hM) qc (gqc.S hM) ((hM.o gx trivial rfl).2.trans f_x_10) pf_x_11) (cwV 1 hts (hx_gV kw_810 kw_807 kw_809 kw_25 kw_94) rfl rfl rfl (by decide +kernel) ⟨Nat.le_of_ble_eq_true rfl, Nat.le_of_ble_eq_true rfl⟩) rfl hl.1 rfl (Nat.le_of_ble_eq_true rfl) dX9_hear_2 ⟨Nat.le_of_ble_eq_true rfl, Nat.le_of_ble_eq_true rfl⟩) hW (fun r_3 L_1 h_2 H locs p_4 hW => ?_)
  obtain ⟨hr_5, hT, hs⟩ := p_4
  replace hT : hx_T T_tb L_1 h_2 := hT
  replace hs : hx_S T_tb [] L h L_1 h_2 := hs
  replace pf_x_8 : ∀ j : Nat, (j : Int) < (h_2.2.1 x 8).toInt → h_2.2.2 qp j ≠ none := by
    intro j hj; rw [(hs.o (gx.S hM) trivial rfl).1] at hj; rw [(hs.a (gqp.S hM) rfl j).2]; exact pf_x_8 j hj
  replace pf_x_11 : ∀ j : Nat, (j : Int) < (h_2.2.1 x 11).toInt → h_2.2.2 qc j ≠ none := by
    intro j hj; rw [(hs.o (gx.S hM) trivial rfl).1] at hj; rw [(hs.a (gqc.S hM) rfl j).2]; exact pf_x_11 j hj
  replace pf_x_13 : ∀ j : Nat, (j : Int) < (h_2.2.1 x 13).toInt → h_2.2.2 qh j ≠ none := by
    intro j hj; rw [(hs.o (gx.S hM) trivial rfl).1] at hj; rw [(hs.a (gqh.S hM) rfl j).2]; exact pf_x_13 j hj
  replace hM := hM.tr (hs.mono (by decide))
  have hr_5 : ∀ q, r_3 = some q → hx_g L_1 h_2 q 2 := hr_5
  rcases r_3 with _ | q_6
  · skip
    refine lv_astoreN (lv' := [(5, .null), (0, .ref x), (1, .int i1), (2, .int i2), (3, .int i3), (4, .int i4)]) hx hb dX9_hear_5 hl (by decide) rfl (fun ls hl => ?_)
    refine lv_aloadN hx hb dX9_hear_7 (lv_at hl 0 rfl) ?_
    refine lv_ifnullN (tgt := 66) hx hb dX9_hear_9 (by decide) ?_
    refine lv_iconst (v := -1) hx hb dX9_hear_66 (by decide) ?_
    exact hx_reti hx hb hr hlk hW ⟨trivial, hT, hM, pf_x_13⟩ dX9_hear_67
  · have gq_6 := hr_5 _ rfl
    refine lv_astore (lv' := [(5, .ref q_6), (0, .ref x), (1, .int i1), (2, .int i2), (3, .int i3), (4, .int i4)]) hx hb dX9_hear_5 hl (by decide) rfl (fun ls hl => ?_)
    refine lv_aload hx hb dX9_hear_7 (lv_at hl 0 rfl) ?_
    refine lv_ifnull hx hb dX9_hear_9 ?_
    refine lv_aload hx hb dX9_hear_12 (lv_at hl 0 rfl) ?_
    refine hx_geti hx hb hts hC_2 hown hW hT gq_6 tt_2 10 (by decide) rfl kw_747 ⟨rfl, rfl, rfl⟩ dX9_hear_14 (fun x_7 ex_7 lx_7 ux_7 => ?_)
    have fx_7 := ex_7.symm
    refine lv_iconst (v := -1) hx hb dX9_hear_17 (by decide) ?_
    refine hb_icmp_eq (zx := x_7.toInt) (zy := (-1)) (tgt := 66) hx hb rfl (by decide) dX9_hear_18 (by decide) (fun c_8 => ?_) (fun c_8 => ?_)
    · skip
      refine lv_iconst (v := -1) hx hb dX9_hear_66 (by decide) ?_
      exact hx_reti hx hb hr hlk hW ⟨trivial, hT, hM, pf_x_13⟩ dX9_hear_67
    · skip
      refine lv_aload hx hb dX9_hear_21 (lv_at hl 0 rfl) ?_
      refine hx_geti hx hb hts hC_2 hown hW hT gq_6 tt_2 11 (by decide) rfl kw_749 ⟨rfl, rfl, rfl⟩ dX9_hear_23 (fun x_9 ex_9 lx_9 ux_9 => ?_)
      have fx_9 := ex_9.symm
      refine lv_iconst (v := -1) hx hb dX9_hear_26 (by decide) ?_
      refine hb_icmp_ne (zx := x_9.toInt) (zy := (-1)) (tgt := 66) hx hb rfl (by decide) dX9_hear_27 (by decide) (fun c_10 => ?_) (fun c_10 => ?_)
      · skip
        refine lv_iconst (v := -1) hx hb dX9_hear_66 (by decide) ?_
        exact hx_reti hx hb hr hlk hW ⟨trivial, hT, hM, pf_x_13⟩ dX9_hear_67
      · skip
        refine lv_aload hx hb dX9_hear_30 (lv_at hl 0 rfl) ?_
        refine hx_getn hx hb hts hC_2 hown hW hT gq_6 tt_2 2 (by decide) rfl kw_733 ⟨rfl, rfl, rfl⟩ dX9_hear_32 (fun q_11 fq_11 gq_11 => ?_)
        refine hx_geti hx hb hts hC_4 hown hW hT gq_11 tt_4 7 (by decide) rfl kw_623 ⟨rfl, rfl, rfl⟩ dX9_hear_35 (fun x_12 ex_12 lx_12 ux_12 => ?_)
        have fx_12 := ex_12.symm
        refine hb_if_ne (zx := x_12.toInt) (tgt := 66) hx hb rfl dX9_hear_38 (by decide) (fun c_13 => ?_) (fun c_13 => ?_)
        · skip
          refine lv_iconst (v := -1) hx hb dX9_hear_66 (by decide) ?_
          exact hx_reti hx hb hr hlk hW ⟨trivial, hT, hM, pf_x_13⟩ dX9_hear_67
        · skip
          refine lv_iload hx hb dX9_hear_41 (lv_at hl 5 rfl) ?_
          refine hb_if_lt (zx := i4.toInt) (tgt := 66) hx hb rfl dX9_hear_43 (by decide) (fun c_14 => ?_) (fun c_14 => ?_)
          · skip
            refine lv_iconst (v := -1) hx hb dX9_hear_66 (by decide) ?_
            exact hx_reti hx hb hr hlk hW ⟨trivial, hT, hM, pf_x_13⟩ dX9_hear_67
          · skip
            refine lv_aload_n hx hb dX9_hear_46 rfl (lv_at hl 1 rfl) ?_
            refine hx_geti hx hb hts hC_9 hown hW hT (gx.S hM) tt_9 13 (by decide) rfl kw_377 ⟨rfl, rfl, rfl⟩ dX9_hear_47 (fun x_15 ex_15 lx_15 ux_15 => ?_)
            have fx_15 := ex_15.symm
            refine lv_bipush (v := 100) hx hb dX9_hear_50 (by decide) ?_
            refine hb_icmp_ge (zx := x_15.toInt) (zy := 100) (tgt := 66) hx hb rfl (by decide) dX9_hear_52 (by decide) (fun c_16 => ?_) (fun c_16 => ?_)
            · skip
              refine lv_iconst (v := -1) hx hb dX9_hear_66 (by decide) ?_
              exact hx_reti hx hb hr hlk hW ⟨trivial, hT, hM, pf_x_13⟩ dX9_hear_67
            · skip
              refine lv_aload_n hx hb dX9_hear_55 rfl (lv_at hl 1 rfl) ?_
              refine lv_aload hx hb dX9_hear_56 (lv_at hl 0 rfl) ?_
              refine lv_iload hx hb dX9_hear_58 (lv_at hl 5 rfl) ?_
              refine hx_goi (hx_runV (As := [.ref q_6, .int i4]) (rest := []) ⟨hx, hb, hml, hown, hts⟩ hW (gx.S hM) tt_9 (T := TX9) (N := 20) rfl (t_X9_drawBench l dC dI dA L_1 h_2 H.size x q_6 i4 hT (gx.S hM) gq_6 (by omega) qp (gqp.S hM) ((hM.o gx trivial rfl).2.trans f_x_7) pf_x_8) (cwV 2 hts (hx_gV kw_818 kw_815 kw_817 kw_26 kw_94) rfl rfl rfl (by decide +kernel) ⟨Nat.le_of_ble_eq_true rfl, Nat.le_of_ble_eq_true rfl⟩) rfl hl.1 rfl (Nat.le_of_ble_eq_true rfl) dX9_hear_60 ⟨Nat.le_of_ble_eq_true rfl, Nat.le_of_ble_eq_true rfl⟩) hW (fun r_19 L_17 h_18 H locs p_20 hW => ?_)
              obtain ⟨hr_21, hT, hs⟩ := p_20
              replace hT : hx_T T_tb L_17 h_18 := hT
              replace hs : hx_S T_tb [(21, 0), (47, 0)] L_1 h_2 L_17 h_18 := hs
              replace fx_7 := (hs.o gq_6 trivial rfl).1.trans fx_7
              replace fx_9 := (hs.o gq_6 trivial rfl).1.trans fx_9
              replace fq_11 := (hs.o gq_6 trivial rfl).2.trans fq_11
              replace fx_12 := (hs.o gq_11 trivial rfl).1.trans fx_12
              replace fx_15 := (hs.o (gx.S hM) trivial rfl).1.trans fx_15
              replace pf_x_8 : ∀ j : Nat, (j : Int) < (h_18.2.1 x 8).toInt → h_18.2.2 qp j ≠ none := by
                intro j hj; rw [(hs.o (gx.S hM) trivial rfl).1] at hj; rw [(hs.a (gqp.S hM) rfl j).2]; exact pf_x_8 j hj
              replace pf_x_11 : ∀ j : Nat, (j : Int) < (h_18.2.1 x 11).toInt → h_18.2.2 qc j ≠ none := by
                intro j hj; rw [(hs.o (gx.S hM) trivial rfl).1] at hj; rw [(hs.a (gqc.S hM) rfl j).2]; exact pf_x_11 j hj
              replace pf_x_13 : ∀ j : Nat, (j : Int) < (h_18.2.1 x 13).toInt → h_18.2.2 qh j ≠ none := by
                intro j hj; rw [(hs.o (gx.S hM) trivial rfl).1] at hj; rw [(hs.a (gqh.S hM) rfl j).2]; exact pf_x_13 j hj
              replace hM := hM.tr (hs.mono (by decide))
              replace gq_6 := gq_6.S hs
              replace gq_11 := gq_11.S hs
              refine hb_if_ne (zx := r_19.toInt) (tgt := 68) hx hb rfl dX9_hear_63 (by decide) (fun c_22 => ?_) (fun c_22 => ?_)
              · skip
                refine lv_aload hx hb dX9_hear_68 (lv_at hl 0 rfl) ?_
                refine hx_getn hx hb hts hC_2 hown hW hT gq_6 tt_2 1 (by decide) rfl kw_728 ⟨rfl, rfl, rfl⟩ dX9_hear_70 (fun q_23 fq_23 gq_23 => ?_)
                refine hx_geti hx hb hts hC_4 hown hW hT gq_23 tt_4 0 (by decide) rfl kw_612 ⟨rfl, rfl, rfl⟩ dX9_hear_73 (fun x_24 ex_24 lx_24 ux_24 => ?_)
                have fx_24 := ex_24.symm
                refine lv_istore (lv' := [(6, .int x_24), (5, .ref q_6), (0, .ref x), (1, .int i1), (2, .int i2), (3, .int i3), (4, .int i4)]) hx hb dX9_hear_76 hl (by decide) rfl (fun ls hl => ?_)
                refine lv_aload hx hb dX9_hear_78 (lv_at hl 1 rfl) ?_
                refine hk_getr hx hb hts hC_2 hown hW gq_6 tt_2 2 (by decide) rfl kw_733 ⟨rfl, rfl, rfl⟩ fq_11 dX9_hear_80 ?_
                refine hx_geti hx hb hts hC_4 hown hW hT gq_11 tt_4 0 (by decide) rfl kw_612 ⟨rfl, rfl, rfl⟩ dX9_hear_83 (fun x_25 ex_25 lx_25 ux_25 => ?_)
                have fx_25 := ex_25.symm
                refine lv_istore (lv' := [(7, .int x_25), (6, .int x_24), (5, .ref q_6), (0, .ref x), (1, .int i1), (2, .int i2), (3, .int i3), (4, .int i4)]) hx hb dX9_hear_86 hl (by decide) rfl (fun ls hl => ?_)
                refine lv_aload hx hb dX9_hear_88 (lv_at hl 2 rfl) ?_
                refine hx_getn hx hb hts hC_2 hown hW hT gq_6 tt_2 4 (by decide) rfl kw_738 ⟨rfl, rfl, rfl⟩ dX9_hear_90 (fun q_26 fq_26 gq_26 => ?_)
                refine lv_iconst (v := 0) hx hb dX9_hear_93 (by decide) ?_
                refine lv_iload_n hx hb dX9_hear_94 rfl (lv_at hl 5 rfl) ?_
                have jn_103 : ∀ (xj_27 : Int32) (ls : Array Slot), 0 ≤ xj_27.toInt → xj_27.toInt ≤ 1 → lv_has ls 8 [(7, .int x_25), (6, .int x_24), (5, .ref q_6), (0, .ref x), (1, .int i1), (2, .int i2), (3, .int i3), (4, .int i4)] → W p l e ({ frames := 4, cells := 0, slots := 0, locals := 92 }) s m ([.ref x, .int i1, .int i2, .int i3, .int i4] : List Value).toArray below meth c H locs 0 0 (MQ below (va_Qi (fun (r : Int32) (u : List Nat × hx_h) => (True) ∧ hx_T T_tb u.1 u.2 ∧ hx_S T_tb [(2, 11), (2, 12), (9, 13), (19, 0), (20, 0), (21, 0), (46, 0), (47, 0)] L h u.1 u.2 ∧ (∀ j : Nat, (j : Int) < (u.2.2.1 x 13).toInt → u.2.2.2 qh j ≠ none)) (hx_E T_tb (P_ty dA) (dC, dI) vwCl (hx_A L sz)) (hx_A L sz)) ([.ref x, .int i1, .int i2, .int i3, .int i4] : List Value).toArray s 0 0 (hx_A L sz)) (F0 m 103 ls [.int xj_27, .int (0 : Int32), .ref q_26]) := by
                  intro xj_27 ls blxj_27 buxj_27 hl
                  refine hx_iast hx hb hW hT (hx_S.rf (M := [(20, 0)])) gq_26 tt_20 rfl (by decide) rfl (i32_r _) (List.mem_singleton.mpr rfl) dX9_hear_103 (fun H locs h_28 eh_28 hW hT hs => ?_)
                  replace fx_7 := (hs.o gq_6 trivial rfl).1.trans fx_7
                  replace fx_9 := (hs.o gq_6 trivial rfl).1.trans fx_9
                  replace fq_11 := (hs.o gq_6 trivial rfl).2.trans fq_11
                  replace fx_12 := (hs.o gq_11 trivial rfl).1.trans fx_12
                  replace fx_15 := (hs.o (gx.S hM) trivial rfl).1.trans fx_15
                  replace fq_23 := (hs.o gq_6 trivial rfl).2.trans fq_23
                  replace fx_24 := (hs.o gq_23 trivial rfl).1.trans fx_24
                  replace fx_25 := (hs.o gq_11 trivial rfl).1.trans fx_25
                  replace fq_26 := (hs.o gq_6 trivial rfl).2.trans fq_26
                  replace pf_x_8 : ∀ j : Nat, (j : Int) < (h_28.2.1 x 8).toInt → h_28.2.2 qp j ≠ none := by
                    intro j hj; rw [(hs.o (gx.S hM) trivial rfl).1] at hj; rw [(hs.a (gqp.S hM) rfl j).2]; exact pf_x_8 j hj
                  replace pf_x_11 : ∀ j : Nat, (j : Int) < (h_28.2.1 x 11).toInt → h_28.2.2 qc j ≠ none := by
                    intro j hj; rw [(hs.o (gx.S hM) trivial rfl).1] at hj; rw [(hs.a (gqc.S hM) rfl j).2]; exact pf_x_11 j hj
                  replace pf_x_13 : ∀ j : Nat, (j : Int) < (h_28.2.1 x 13).toInt → h_28.2.2 qh j ≠ none := by
                    intro j hj; rw [(hs.o (gx.S hM) trivial rfl).1] at hj; rw [(hs.a (gqh.S hM) rfl j).2]; exact pf_x_13 j hj
                  replace hM := hM.tr (hs.mono (by decide))
                  replace gq_6 := gq_6.S hs
                  replace gq_11 := gq_11.S hs
                  replace gq_23 := gq_23.S hs
                  replace gq_26 := gq_26.S hs
                  refine lv_aload hx hb dX9_hear_104 (lv_at hl 2 rfl) ?_
                  refine hk_getr hx hb hts hC_2 hown hW gq_6 tt_2 4 (by decide) rfl kw_738 ⟨rfl, rfl, rfl⟩ fq_26 dX9_hear_106 ?_
                  refine lv_iconst (v := 1) hx hb dX9_hear_109 (by decide) ?_
                  refine lv_iload_n hx hb dX9_hear_110 rfl (lv_at hl 6 rfl) ?_
                  have jn_119 : ∀ (xj_29 : Int32) (ls : Array Slot), 0 ≤ xj_29.toInt → xj_29.toInt ≤ 1 → lv_has ls 8 [(7, .int x_25), (6, .int x_24), (5, .ref q_6), (0, .ref x), (1, .int i1), (2, .int i2), (3, .int i3), (4, .int i4)] → W p l e ({ frames := 4, cells := 0, slots := 0, locals := 92 }) s m ([.ref x, .int i1, .int i2, .int i3, .int i4] : List Value).toArray below meth c H locs 0 0 (MQ below (va_Qi (fun (r : Int32) (u : List Nat × hx_h) => (True) ∧ hx_T T_tb u.1 u.2 ∧ hx_S T_tb [(2, 11), (2, 12), (9, 13), (19, 0), (20, 0), (21, 0), (46, 0), (47, 0)] L h u.1 u.2 ∧ (∀ j : Nat, (j : Int) < (u.2.2.1 x 13).toInt → u.2.2.2 qh j ≠ none)) (hx_E T_tb (P_ty dA) (dC, dI) vwCl (hx_A L sz)) (hx_A L sz)) ([.ref x, .int i1, .int i2, .int i3, .int i4] : List Value).toArray s 0 0 (hx_A L sz)) (F0 m 119 ls [.int xj_29, .int (1 : Int32), .ref q_26]) := by
                    intro xj_29 ls blxj_29 buxj_29 hl
                    refine hx_iast hx hb hW hT (hx_S.rf (M := [(20, 0)])) gq_26 tt_20 rfl (by decide) rfl (i32_r _) (List.mem_singleton.mpr rfl) dX9_hear_119 (fun H locs h_30 eh_30 hW hT hs => ?_)
                    replace fx_7 := (hs.o gq_6 trivial rfl).1.trans fx_7
                    replace fx_9 := (hs.o gq_6 trivial rfl).1.trans fx_9
                    replace fq_11 := (hs.o gq_6 trivial rfl).2.trans fq_11
                    replace fx_12 := (hs.o gq_11 trivial rfl).1.trans fx_12
                    replace fx_15 := (hs.o (gx.S hM) trivial rfl).1.trans fx_15
                    replace fq_23 := (hs.o gq_6 trivial rfl).2.trans fq_23
                    replace fx_24 := (hs.o gq_23 trivial rfl).1.trans fx_24
                    replace fx_25 := (hs.o gq_11 trivial rfl).1.trans fx_25
                    replace fq_26 := (hs.o gq_6 trivial rfl).2.trans fq_26
                    replace pf_x_8 : ∀ j : Nat, (j : Int) < (h_30.2.1 x 8).toInt → h_30.2.2 qp j ≠ none := by
                      intro j hj; rw [(hs.o (gx.S hM) trivial rfl).1] at hj; rw [(hs.a (gqp.S hM) rfl j).2]; exact pf_x_8 j hj
                    replace pf_x_11 : ∀ j : Nat, (j : Int) < (h_30.2.1 x 11).toInt → h_30.2.2 qc j ≠ none := by
                      intro j hj; rw [(hs.o (gx.S hM) trivial rfl).1] at hj; rw [(hs.a (gqc.S hM) rfl j).2]; exact pf_x_11 j hj
                    replace pf_x_13 : ∀ j : Nat, (j : Int) < (h_30.2.1 x 13).toInt → h_30.2.2 qh j ≠ none := by
                      intro j hj; rw [(hs.o (gx.S hM) trivial rfl).1] at hj; rw [(hs.a (gqh.S hM) rfl j).2]; exact pf_x_13 j hj
                    replace hM := hM.tr (hs.mono (by decide))
                    replace gq_6 := gq_6.S hs
                    replace gq_11 := gq_11.S hs
                    replace gq_23 := gq_23.S hs
                    replace gq_26 := gq_26.S hs
                    refine lv_aload hx hb dX9_hear_120 (lv_at hl 2 rfl) ?_
                    refine hk_getr hx hb hts hC_2 hown hW gq_6 tt_2 4 (by decide) rfl kw_738 ⟨rfl, rfl, rfl⟩ fq_26 dX9_hear_122 ?_
                    refine lv_iconst (v := 4) hx hb dX9_hear_125 (by decide) ?_
                    refine lv_aload_n hx hb dX9_hear_126 rfl (lv_at hl 3 rfl) ?_
                    refine hx_getn hx hb hts hC_9 hown hW hT (gx.S hM) tt_9 9 (by decide) rfl kw_373 ⟨rfl, rfl, rfl⟩ dX9_hear_127 (fun q_31 fq_31 gq_31 => ?_)
                    refine lv_iload hx hb dX9_hear_130 (lv_at hl 1 rfl) ?_
                    refine lv_iload hx hb dX9_hear_132 (lv_at hl 0 rfl) ?_
                    refine lv_aload hx hb dX9_hear_134 (lv_at hl 2 rfl) ?_
                    refine hx_geti hx hb hts hC_2 hown hW hT gq_6 tt_2 8 (by decide) rfl kw_743 ⟨rfl, rfl, rfl⟩ dX9_hear_136 (fun x_32 ex_32 lx_32 ux_32 => ?_)
                    have fx_32 := ex_32.symm
                    have zc_4 : (4 : Int32).toInt = 4 := by decide
                    refine hx_goi (hx_runV (As := [.int x_24, .int x_25, .int x_32]) (rest := [.int (4 : Int32), .ref q_26]) ⟨hx, hb, hml, hown, hts⟩ hW gq_31 tt_1 (T := TX1) (N := 8) rfl (t_X1_sumWith l dC dI dA L_17 h_30 H.size q_31 x_24 x_25 x_32 hT gq_31) (cwV 3 hts (hx_gV kw_688 kw_685 kw_686 kw_687 kw_98) rfl rfl rfl (by decide +kernel) ⟨Nat.le_of_ble_eq_true rfl, Nat.le_of_ble_eq_true rfl⟩) rfl hl.1 rfl (Nat.le_of_ble_eq_true rfl) dX9_hear_139 ⟨Nat.le_of_ble_eq_true rfl, Nat.le_of_ble_eq_true rfl⟩) hW (fun r_35 L_33 h_34 H locs p_36 hW => ?_)
                    obtain ⟨hr_37, hT, hs⟩ := p_36
                    replace hT : hx_T T_tb L_33 h_34 := hT
                    replace hs : hx_S T_tb [] L_17 h_30 L_33 h_34 := hs
                    replace fx_7 := (hs.o gq_6 trivial rfl).1.trans fx_7
                    replace fx_9 := (hs.o gq_6 trivial rfl).1.trans fx_9
                    replace fq_11 := (hs.o gq_6 trivial rfl).2.trans fq_11
                    replace fx_12 := (hs.o gq_11 trivial rfl).1.trans fx_12
                    replace fx_15 := (hs.o (gx.S hM) trivial rfl).1.trans fx_15
                    replace fq_23 := (hs.o gq_6 trivial rfl).2.trans fq_23
                    replace fx_24 := (hs.o gq_23 trivial rfl).1.trans fx_24
                    replace fx_25 := (hs.o gq_11 trivial rfl).1.trans fx_25
                    replace fq_26 := (hs.o gq_6 trivial rfl).2.trans fq_26
                    replace fq_31 := (hs.o (gx.S hM) trivial rfl).2.trans fq_31
                    replace fx_32 := (hs.o gq_6 trivial rfl).1.trans fx_32
                    replace pf_x_8 : ∀ j : Nat, (j : Int) < (h_34.2.1 x 8).toInt → h_34.2.2 qp j ≠ none := by
                      intro j hj; rw [(hs.o (gx.S hM) trivial rfl).1] at hj; rw [(hs.a (gqp.S hM) rfl j).2]; exact pf_x_8 j hj
                    replace pf_x_11 : ∀ j : Nat, (j : Int) < (h_34.2.1 x 11).toInt → h_34.2.2 qc j ≠ none := by
                      intro j hj; rw [(hs.o (gx.S hM) trivial rfl).1] at hj; rw [(hs.a (gqc.S hM) rfl j).2]; exact pf_x_11 j hj
                    replace pf_x_13 : ∀ j : Nat, (j : Int) < (h_34.2.1 x 13).toInt → h_34.2.2 qh j ≠ none := by
                      intro j hj; rw [(hs.o (gx.S hM) trivial rfl).1] at hj; rw [(hs.a (gqh.S hM) rfl j).2]; exact pf_x_13 j hj
                    replace hM := hM.tr (hs.mono (by decide))
                    replace gq_6 := gq_6.S hs
                    replace gq_11 := gq_11.S hs
                    replace gq_23 := gq_23.S hs
                    replace gq_26 := gq_26.S hs
                    replace gq_31 := gq_31.S hs
                    refine hx_iast hx hb hW hT (hx_S.rf (M := [(20, 0)])) gq_26 tt_20 rfl (by decide) rfl (i32_r _) (List.mem_singleton.mpr rfl) dX9_hear_142 (fun H locs h_38 eh_38 hW hT hs => ?_)
                    replace fx_7 := (hs.o gq_6 trivial rfl).1.trans fx_7
                    replace fx_9 := (hs.o gq_6 trivial rfl).1.trans fx_9
                    replace fq_11 := (hs.o gq_6 trivial rfl).2.trans fq_11
                    replace fx_12 := (hs.o gq_11 trivial rfl).1.trans fx_12
                    replace fx_15 := (hs.o (gx.S hM) trivial rfl).1.trans fx_15
                    replace fq_23 := (hs.o gq_6 trivial rfl).2.trans fq_23
                    replace fx_24 := (hs.o gq_23 trivial rfl).1.trans fx_24
                    replace fx_25 := (hs.o gq_11 trivial rfl).1.trans fx_25
                    replace fq_26 := (hs.o gq_6 trivial rfl).2.trans fq_26
                    replace fq_31 := (hs.o (gx.S hM) trivial rfl).2.trans fq_31
                    replace fx_32 := (hs.o gq_6 trivial rfl).1.trans fx_32
                    replace pf_x_8 : ∀ j : Nat, (j : Int) < (h_38.2.1 x 8).toInt → h_38.2.2 qp j ≠ none := by
                      intro j hj; rw [(hs.o (gx.S hM) trivial rfl).1] at hj; rw [(hs.a (gqp.S hM) rfl j).2]; exact pf_x_8 j hj
                    replace pf_x_11 : ∀ j : Nat, (j : Int) < (h_38.2.1 x 11).toInt → h_38.2.2 qc j ≠ none := by
                      intro j hj; rw [(hs.o (gx.S hM) trivial rfl).1] at hj; rw [(hs.a (gqc.S hM) rfl j).2]; exact pf_x_11 j hj
                    replace pf_x_13 : ∀ j : Nat, (j : Int) < (h_38.2.1 x 13).toInt → h_38.2.2 qh j ≠ none := by
                      intro j hj; rw [(hs.o (gx.S hM) trivial rfl).1] at hj; rw [(hs.a (gqh.S hM) rfl j).2]; exact pf_x_13 j hj
                    replace hM := hM.tr (hs.mono (by decide))
                    replace gq_6 := gq_6.S hs
                    replace gq_11 := gq_11.S hs
                    replace gq_23 := gq_23.S hs
                    replace gq_26 := gq_26.S hs
                    replace gq_31 := gq_31.S hs
                    refine lv_aload hx hb dX9_hear_143 (lv_at hl 2 rfl) ?_
                    refine hk_getr hx hb hts hC_2 hown hW gq_6 tt_2 4 (by decide) rfl kw_738 ⟨rfl, rfl, rfl⟩ fq_26 dX9_hear_145 ?_
                    refine lv_iconst (v := 5) hx hb dX9_hear_148 (by decide) ?_
                    refine lv_aload_n hx hb dX9_hear_149 rfl (lv_at hl 3 rfl) ?_
                    refine hk_getr hx hb hts hC_9 hown hW (gx.S hM) tt_9 9 (by decide) rfl kw_373 ⟨rfl, rfl, rfl⟩ fq_31 dX9_hear_150 ?_
                    refine lv_iload hx hb dX9_hear_153 (lv_at hl 0 rfl) ?_
                    refine lv_iload hx hb dX9_hear_155 (lv_at hl 1 rfl) ?_
                    refine lv_aload hx hb dX9_hear_157 (lv_at hl 2 rfl) ?_
                    refine hk_geti hx hb hts hC_2 hown hW gq_6 tt_2 8 (by decide) rfl kw_743 ⟨rfl, rfl, rfl⟩ fx_32 dX9_hear_159 ?_
                    have zc_5 : (5 : Int32).toInt = 5 := by decide
                    refine hx_goi (hx_runV (As := [.int x_25, .int x_24, .int x_32]) (rest := [.int (5 : Int32), .ref q_26]) ⟨hx, hb, hml, hown, hts⟩ hW gq_31 tt_1 (T := TX1) (N := 8) rfl (t_X1_sumWith l dC dI dA L_33 h_38 H.size q_31 x_25 x_24 x_32 hT gq_31) (cwV 3 hts (hx_gV kw_688 kw_685 kw_686 kw_687 kw_98) rfl rfl rfl (by decide +kernel) ⟨Nat.le_of_ble_eq_true rfl, Nat.le_of_ble_eq_true rfl⟩) rfl hl.1 rfl (Nat.le_of_ble_eq_true rfl) dX9_hear_162 ⟨Nat.le_of_ble_eq_true rfl, Nat.le_of_ble_eq_true rfl⟩) hW (fun r_41 L_39 h_40 H locs p_42 hW => ?_)
                    obtain ⟨hr_43, hT, hs⟩ := p_42
                    replace hT : hx_T T_tb L_39 h_40 := hT
                    replace hs : hx_S T_tb [] L_33 h_38 L_39 h_40 := hs
                    replace fx_7 := (hs.o gq_6 trivial rfl).1.trans fx_7
                    replace fx_9 := (hs.o gq_6 trivial rfl).1.trans fx_9
                    replace fq_11 := (hs.o gq_6 trivial rfl).2.trans fq_11
                    replace fx_12 := (hs.o gq_11 trivial rfl).1.trans fx_12
                    replace fx_15 := (hs.o (gx.S hM) trivial rfl).1.trans fx_15
                    replace fq_23 := (hs.o gq_6 trivial rfl).2.trans fq_23
                    replace fx_24 := (hs.o gq_23 trivial rfl).1.trans fx_24
                    replace fx_25 := (hs.o gq_11 trivial rfl).1.trans fx_25
                    replace fq_26 := (hs.o gq_6 trivial rfl).2.trans fq_26
                    replace fq_31 := (hs.o (gx.S hM) trivial rfl).2.trans fq_31
                    replace fx_32 := (hs.o gq_6 trivial rfl).1.trans fx_32
                    replace pf_x_8 : ∀ j : Nat, (j : Int) < (h_40.2.1 x 8).toInt → h_40.2.2 qp j ≠ none := by
                      intro j hj; rw [(hs.o (gx.S hM) trivial rfl).1] at hj; rw [(hs.a (gqp.S hM) rfl j).2]; exact pf_x_8 j hj
                    replace pf_x_11 : ∀ j : Nat, (j : Int) < (h_40.2.1 x 11).toInt → h_40.2.2 qc j ≠ none := by
                      intro j hj; rw [(hs.o (gx.S hM) trivial rfl).1] at hj; rw [(hs.a (gqc.S hM) rfl j).2]; exact pf_x_11 j hj
                    replace pf_x_13 : ∀ j : Nat, (j : Int) < (h_40.2.1 x 13).toInt → h_40.2.2 qh j ≠ none := by
                      intro j hj; rw [(hs.o (gx.S hM) trivial rfl).1] at hj; rw [(hs.a (gqh.S hM) rfl j).2]; exact pf_x_13 j hj
                    replace hM := hM.tr (hs.mono (by decide))
                    replace gq_6 := gq_6.S hs
                    replace gq_11 := gq_11.S hs
                    replace gq_23 := gq_23.S hs
                    replace gq_26 := gq_26.S hs
                    replace gq_31 := gq_31.S hs
                    refine lv_ineg hx hb dX9_hear_165 ?_
                    refine lv_topi (fun x_44 ex_44 => ?_)
                    refine hx_iast hx hb hW hT (hx_S.rf (M := [(20, 0)])) gq_26 tt_20 rfl (by decide) rfl (i32_r _) (List.mem_singleton.mpr rfl) dX9_hear_166 (fun H locs h_45 eh_45 hW hT hs => ?_)
                    replace fx_7 := (hs.o gq_6 trivial rfl).1.trans fx_7
                    replace fx_9 := (hs.o gq_6 trivial rfl).1.trans fx_9
                    replace fq_11 := (hs.o gq_6 trivial rfl).2.trans fq_11
                    replace fx_12 := (hs.o gq_11 trivial rfl).1.trans fx_12
                    replace fx_15 := (hs.o (gx.S hM) trivial rfl).1.trans fx_15
                    replace fq_23 := (hs.o gq_6 trivial rfl).2.trans fq_23
                    replace fx_24 := (hs.o gq_23 trivial rfl).1.trans fx_24
                    replace fx_25 := (hs.o gq_11 trivial rfl).1.trans fx_25
                    replace fq_26 := (hs.o gq_6 trivial rfl).2.trans fq_26
                    replace fq_31 := (hs.o (gx.S hM) trivial rfl).2.trans fq_31
                    replace fx_32 := (hs.o gq_6 trivial rfl).1.trans fx_32
                    replace pf_x_8 : ∀ j : Nat, (j : Int) < (h_45.2.1 x 8).toInt → h_45.2.2 qp j ≠ none := by
                      intro j hj; rw [(hs.o (gx.S hM) trivial rfl).1] at hj; rw [(hs.a (gqp.S hM) rfl j).2]; exact pf_x_8 j hj
                    replace pf_x_11 : ∀ j : Nat, (j : Int) < (h_45.2.1 x 11).toInt → h_45.2.2 qc j ≠ none := by
                      intro j hj; rw [(hs.o (gx.S hM) trivial rfl).1] at hj; rw [(hs.a (gqc.S hM) rfl j).2]; exact pf_x_11 j hj
                    replace pf_x_13 : ∀ j : Nat, (j : Int) < (h_45.2.1 x 13).toInt → h_45.2.2 qh j ≠ none := by
                      intro j hj; rw [(hs.o (gx.S hM) trivial rfl).1] at hj; rw [(hs.a (gqh.S hM) rfl j).2]; exact pf_x_13 j hj
                    replace hM := hM.tr (hs.mono (by decide))
                    replace gq_6 := gq_6.S hs
                    replace gq_11 := gq_11.S hs
                    replace gq_23 := gq_23.S hs
                    replace gq_26 := gq_26.S hs
                    replace gq_31 := gq_31.S hs
                    refine lv_aload hx hb dX9_hear_167 (lv_at hl 2 rfl) ?_
                    refine hk_getr hx hb hts hC_2 hown hW gq_6 tt_2 4 (by decide) rfl kw_738 ⟨rfl, rfl, rfl⟩ fq_26 dX9_hear_169 ?_
                    refine lv_bipush (v := 6) hx hb dX9_hear_172 (by decide) ?_
                    refine lv_aload_n hx hb dX9_hear_174 rfl (lv_at hl 3 rfl) ?_
                    refine hk_getr hx hb hts hC_9 hown hW (gx.S hM) tt_9 9 (by decide) rfl kw_373 ⟨rfl, rfl, rfl⟩ fq_31 dX9_hear_175 ?_
                    refine lv_iload hx hb dX9_hear_178 (lv_at hl 1 rfl) ?_
                    refine lv_iload hx hb dX9_hear_180 (lv_at hl 0 rfl) ?_
                    refine lv_aload hx hb dX9_hear_182 (lv_at hl 2 rfl) ?_
                    refine hk_geti hx hb hts hC_2 hown hW gq_6 tt_2 8 (by decide) rfl kw_743 ⟨rfl, rfl, rfl⟩ fx_32 dX9_hear_184 ?_
                    have zc_6 : (6 : Int32).toInt = 6 := by decide
                    refine hx_goi (hx_runV (As := [.int x_24, .int x_25, .int x_32]) (rest := [.int (6 : Int32), .ref q_26]) ⟨hx, hb, hml, hown, hts⟩ hW gq_31 tt_1 (T := TX1) (N := 8) rfl (t_X1_twinPairs l dC dI dA L_39 h_45 H.size q_31 x_24 x_25 x_32 hT gq_31) (cwV 3 hts (hx_gV kw_696 kw_693 kw_694 kw_695 kw_98) rfl rfl rfl (by decide +kernel) ⟨Nat.le_of_ble_eq_true rfl, Nat.le_of_ble_eq_true rfl⟩) rfl hl.1 rfl (Nat.le_of_ble_eq_true rfl) dX9_hear_187 ⟨Nat.le_of_ble_eq_true rfl, Nat.le_of_ble_eq_true rfl⟩) hW (fun r_48 L_46 h_47 H locs p_49 hW => ?_)
                    obtain ⟨hr_50, hT, hs⟩ := p_49
                    replace hT : hx_T T_tb L_46 h_47 := hT
                    replace hs : hx_S T_tb [(19, 0)] L_39 h_45 L_46 h_47 := hs
                    replace fx_7 := (hs.o gq_6 trivial rfl).1.trans fx_7
                    replace fx_9 := (hs.o gq_6 trivial rfl).1.trans fx_9
                    replace fq_11 := (hs.o gq_6 trivial rfl).2.trans fq_11
                    replace fx_12 := (hs.o gq_11 trivial rfl).1.trans fx_12
                    replace fx_15 := (hs.o (gx.S hM) trivial rfl).1.trans fx_15
                    replace fq_23 := (hs.o gq_6 trivial rfl).2.trans fq_23
                    replace fx_24 := (hs.o gq_23 trivial rfl).1.trans fx_24
                    replace fx_25 := (hs.o gq_11 trivial rfl).1.trans fx_25
                    replace fq_26 := (hs.o gq_6 trivial rfl).2.trans fq_26
                    replace fq_31 := (hs.o (gx.S hM) trivial rfl).2.trans fq_31
                    replace fx_32 := (hs.o gq_6 trivial rfl).1.trans fx_32
                    replace pf_x_8 : ∀ j : Nat, (j : Int) < (h_47.2.1 x 8).toInt → h_47.2.2 qp j ≠ none := by
                      intro j hj; rw [(hs.o (gx.S hM) trivial rfl).1] at hj; rw [(hs.a (gqp.S hM) rfl j).2]; exact pf_x_8 j hj
                    replace pf_x_11 : ∀ j : Nat, (j : Int) < (h_47.2.1 x 11).toInt → h_47.2.2 qc j ≠ none := by
                      intro j hj; rw [(hs.o (gx.S hM) trivial rfl).1] at hj; rw [(hs.a (gqc.S hM) rfl j).2]; exact pf_x_11 j hj
                    replace pf_x_13 : ∀ j : Nat, (j : Int) < (h_47.2.1 x 13).toInt → h_47.2.2 qh j ≠ none := by
                      intro j hj; rw [(hs.o (gx.S hM) trivial rfl).1] at hj; rw [(hs.a (gqh.S hM) rfl j).2]; exact pf_x_13 j hj
                    replace hM := hM.tr (hs.mono (by decide))
                    replace gq_6 := gq_6.S hs
                    replace gq_11 := gq_11.S hs
                    replace gq_23 := gq_23.S hs
                    replace gq_26 := gq_26.S hs
                    replace gq_31 := gq_31.S hs
                    refine hx_iast hx hb hW hT (hx_S.rf (M := [(20, 0)])) gq_26 tt_20 rfl (by decide) rfl (i32_r _) (List.mem_singleton.mpr rfl) dX9_hear_190 (fun H locs h_51 eh_51 hW hT hs => ?_)
                    replace fx_7 := (hs.o gq_6 trivial rfl).1.trans fx_7
                    replace fx_9 := (hs.o gq_6 trivial rfl).1.trans fx_9
                    replace fq_11 := (hs.o gq_6 trivial rfl).2.trans fq_11
                    replace fx_12 := (hs.o gq_11 trivial rfl).1.trans fx_12
                    replace fx_15 := (hs.o (gx.S hM) trivial rfl).1.trans fx_15
                    replace fq_23 := (hs.o gq_6 trivial rfl).2.trans fq_23
                    replace fx_24 := (hs.o gq_23 trivial rfl).1.trans fx_24
                    replace fx_25 := (hs.o gq_11 trivial rfl).1.trans fx_25
                    replace fq_26 := (hs.o gq_6 trivial rfl).2.trans fq_26
                    replace fq_31 := (hs.o (gx.S hM) trivial rfl).2.trans fq_31
                    replace fx_32 := (hs.o gq_6 trivial rfl).1.trans fx_32
                    replace pf_x_8 : ∀ j : Nat, (j : Int) < (h_51.2.1 x 8).toInt → h_51.2.2 qp j ≠ none := by
                      intro j hj; rw [(hs.o (gx.S hM) trivial rfl).1] at hj; rw [(hs.a (gqp.S hM) rfl j).2]; exact pf_x_8 j hj
                    replace pf_x_11 : ∀ j : Nat, (j : Int) < (h_51.2.1 x 11).toInt → h_51.2.2 qc j ≠ none := by
                      intro j hj; rw [(hs.o (gx.S hM) trivial rfl).1] at hj; rw [(hs.a (gqc.S hM) rfl j).2]; exact pf_x_11 j hj
                    replace pf_x_13 : ∀ j : Nat, (j : Int) < (h_51.2.1 x 13).toInt → h_51.2.2 qh j ≠ none := by
                      intro j hj; rw [(hs.o (gx.S hM) trivial rfl).1] at hj; rw [(hs.a (gqh.S hM) rfl j).2]; exact pf_x_13 j hj
                    replace hM := hM.tr (hs.mono (by decide))
                    replace gq_6 := gq_6.S hs
                    replace gq_11 := gq_11.S hs
                    replace gq_23 := gq_23.S hs
                    replace gq_26 := gq_26.S hs
                    replace gq_31 := gq_31.S hs
                    refine lv_aload hx hb dX9_hear_191 (lv_at hl 2 rfl) ?_
                    refine lv_aload_n hx hb dX9_hear_193 rfl (lv_at hl 3 rfl) ?_
                    refine hx_geti hx hb hts hC_9 hown hW hT (gx.S hM) tt_9 2 (by decide) rfl kw_366 ⟨rfl, rfl, rfl⟩ dX9_hear_194 (fun x_52 ex_52 lx_52 ux_52 => ?_)
                    have fx_52 := ex_52.symm
                    refine hx_puti hx hb hts hC_2 hown hW hT (hx_S.rf (M := [(2, 11)])) gq_6 tt_2 11 (by decide) rfl kw_749 ⟨rfl, rfl, rfl⟩ rfl (x := x_52) (i32_r _) rfl rfl rfl (List.mem_singleton.mpr rfl) dX9_hear_197 (fun H locs h_53 eh_53 hW hT hs => ?_)
                    replace fx_7 := (hs.o gq_6 trivial rfl).1.trans fx_7
                    replace fq_11 := (hs.o gq_6 trivial rfl).2.trans fq_11
                    replace fx_12 := (hs.o gq_11 trivial rfl).1.trans fx_12
                    replace fx_15 := (hs.o (gx.S hM) trivial rfl).1.trans fx_15
                    replace fq_23 := (hs.o gq_6 trivial rfl).2.trans fq_23
                    replace fx_24 := (hs.o gq_23 trivial rfl).1.trans fx_24
                    replace fx_25 := (hs.o gq_11 trivial rfl).1.trans fx_25
                    replace fq_26 := (hs.o gq_6 trivial rfl).2.trans fq_26
                    replace fq_31 := (hs.o (gx.S hM) trivial rfl).2.trans fq_31
                    replace fx_32 := (hs.o gq_6 trivial rfl).1.trans fx_32
                    replace fx_52 := (hs.o (gx.S hM) trivial rfl).1.trans fx_52
                    replace pf_x_8 : ∀ j : Nat, (j : Int) < (h_53.2.1 x 8).toInt → h_53.2.2 qp j ≠ none := by
                      intro j hj; rw [(hs.o (gx.S hM) trivial rfl).1] at hj; rw [(hs.a (gqp.S hM) rfl j).2]; exact pf_x_8 j hj
                    replace pf_x_11 : ∀ j : Nat, (j : Int) < (h_53.2.1 x 11).toInt → h_53.2.2 qc j ≠ none := by
                      intro j hj; rw [(hs.o (gx.S hM) trivial rfl).1] at hj; rw [(hs.a (gqc.S hM) rfl j).2]; exact pf_x_11 j hj
                    replace pf_x_13 : ∀ j : Nat, (j : Int) < (h_53.2.1 x 13).toInt → h_53.2.2 qh j ≠ none := by
                      intro j hj; rw [(hs.o (gx.S hM) trivial rfl).1] at hj; rw [(hs.a (gqh.S hM) rfl j).2]; exact pf_x_13 j hj
                    replace hM := hM.tr (hs.mono (by decide))
                    replace gq_6 := gq_6.S hs
                    replace gq_11 := gq_11.S hs
                    replace gq_23 := gq_23.S hs
                    replace gq_26 := gq_26.S hs
                    replace gq_31 := gq_31.S hs
                    have f_54 : h_53.2.1 q_6 11 = x_52 := by rw [eh_53]; exact hx_pi_at _ _ _ _
                    refine lv_aload hx hb dX9_hear_200 (lv_at hl 2 rfl) ?_
                    refine lv_aload_n hx hb dX9_hear_202 rfl (lv_at hl 3 rfl) ?_
                    refine lv_aload hx hb dX9_hear_203 (lv_at hl 2 rfl) ?_
                    refine lv_aload hx hb dX9_hear_205 (lv_at hl 2 rfl) ?_
                    refine hx_getn hx hb hts hC_2 hown hW hT gq_6 tt_2 3 (by decide) rfl kw_736 ⟨rfl, rfl, rfl⟩ dX9_hear_207 (fun q_55 fq_55 gq_55 => ?_)
                    refine hx_goi (hx_runV (As := [.ref q_6, .ref q_55]) (rest := [.ref q_6]) ⟨hx, hb, hml, hown, hts⟩ hW (gx.S hM) tt_9 (T := TX9) (N := 20) rfl (t_X9_judgement l dC dI dA L_46 h_53 H.size x q_6 q_55 hT (gx.S hM) gq_6 gq_55 qc (gqc.S hM) ((hM.o gx trivial rfl).2.trans f_x_10) pf_x_11) (cwV 2 hts (hx_gV kw_830 kw_827 kw_829 kw_28 kw_94) rfl rfl rfl (by decide +kernel) ⟨Nat.le_of_ble_eq_true rfl, Nat.le_of_ble_eq_true rfl⟩) rfl hl.1 rfl (Nat.le_of_ble_eq_true rfl) dX9_hear_210 ⟨Nat.le_of_ble_eq_true rfl, Nat.le_of_ble_eq_true rfl⟩) hW (fun r_58 L_56 h_57 H locs p_59 hW => ?_)
                    obtain ⟨hr_60, hT, hs⟩ := p_59
                    replace hT : hx_T T_tb L_56 h_57 := hT
                    replace hs : hx_S T_tb [] L_46 h_53 L_56 h_57 := hs
                    replace fx_7 := (hs.o gq_6 trivial rfl).1.trans fx_7
                    replace fq_11 := (hs.o gq_6 trivial rfl).2.trans fq_11
                    replace fx_12 := (hs.o gq_11 trivial rfl).1.trans fx_12
                    replace fx_15 := (hs.o (gx.S hM) trivial rfl).1.trans fx_15
                    replace fq_23 := (hs.o gq_6 trivial rfl).2.trans fq_23
                    replace fx_24 := (hs.o gq_23 trivial rfl).1.trans fx_24
                    replace fx_25 := (hs.o gq_11 trivial rfl).1.trans fx_25
                    replace fq_26 := (hs.o gq_6 trivial rfl).2.trans fq_26
                    replace fq_31 := (hs.o (gx.S hM) trivial rfl).2.trans fq_31
                    replace fx_32 := (hs.o gq_6 trivial rfl).1.trans fx_32
                    replace fx_52 := (hs.o (gx.S hM) trivial rfl).1.trans fx_52
                    replace f_54 := (hs.o gq_6 trivial rfl).1.trans f_54
                    replace fq_55 := (hs.o gq_6 trivial rfl).2.trans fq_55
                    replace pf_x_8 : ∀ j : Nat, (j : Int) < (h_57.2.1 x 8).toInt → h_57.2.2 qp j ≠ none := by
                      intro j hj; rw [(hs.o (gx.S hM) trivial rfl).1] at hj; rw [(hs.a (gqp.S hM) rfl j).2]; exact pf_x_8 j hj
                    replace pf_x_11 : ∀ j : Nat, (j : Int) < (h_57.2.1 x 11).toInt → h_57.2.2 qc j ≠ none := by
                      intro j hj; rw [(hs.o (gx.S hM) trivial rfl).1] at hj; rw [(hs.a (gqc.S hM) rfl j).2]; exact pf_x_11 j hj
                    replace pf_x_13 : ∀ j : Nat, (j : Int) < (h_57.2.1 x 13).toInt → h_57.2.2 qh j ≠ none := by
                      intro j hj; rw [(hs.o (gx.S hM) trivial rfl).1] at hj; rw [(hs.a (gqh.S hM) rfl j).2]; exact pf_x_13 j hj
                    replace hM := hM.tr (hs.mono (by decide))
                    replace gq_6 := gq_6.S hs
                    replace gq_11 := gq_11.S hs
                    replace gq_23 := gq_23.S hs
                    replace gq_26 := gq_26.S hs
                    replace gq_31 := gq_31.S hs
                    replace gq_55 := gq_55.S hs
                    refine hx_puti hx hb hts hC_2 hown hW hT (hx_S.rf (M := [(2, 12)])) gq_6 tt_2 12 (by decide) rfl kw_751 ⟨rfl, rfl, rfl⟩ rfl (x := r_58) (i32_r _) rfl rfl rfl (List.mem_singleton.mpr rfl) dX9_hear_213 (fun H locs h_61 eh_61 hW hT hs => ?_)
                    replace fx_7 := (hs.o gq_6 trivial rfl).1.trans fx_7
                    replace fq_11 := (hs.o gq_6 trivial rfl).2.trans fq_11
                    replace fx_12 := (hs.o gq_11 trivial rfl).1.trans fx_12
                    replace fx_15 := (hs.o (gx.S hM) trivial rfl).1.trans fx_15
                    replace fq_23 := (hs.o gq_6 trivial rfl).2.trans fq_23
                    replace fx_24 := (hs.o gq_23 trivial rfl).1.trans fx_24
                    replace fx_25 := (hs.o gq_11 trivial rfl).1.trans fx_25
                    replace fq_26 := (hs.o gq_6 trivial rfl).2.trans fq_26
                    replace fq_31 := (hs.o (gx.S hM) trivial rfl).2.trans fq_31
                    replace fx_32 := (hs.o gq_6 trivial rfl).1.trans fx_32
                    replace fx_52 := (hs.o (gx.S hM) trivial rfl).1.trans fx_52
                    replace f_54 := (hs.o gq_6 trivial rfl).1.trans f_54
                    replace fq_55 := (hs.o gq_6 trivial rfl).2.trans fq_55
                    replace pf_x_8 : ∀ j : Nat, (j : Int) < (h_61.2.1 x 8).toInt → h_61.2.2 qp j ≠ none := by
                      intro j hj; rw [(hs.o (gx.S hM) trivial rfl).1] at hj; rw [(hs.a (gqp.S hM) rfl j).2]; exact pf_x_8 j hj
                    replace pf_x_11 : ∀ j : Nat, (j : Int) < (h_61.2.1 x 11).toInt → h_61.2.2 qc j ≠ none := by
                      intro j hj; rw [(hs.o (gx.S hM) trivial rfl).1] at hj; rw [(hs.a (gqc.S hM) rfl j).2]; exact pf_x_11 j hj
                    replace pf_x_13 : ∀ j : Nat, (j : Int) < (h_61.2.1 x 13).toInt → h_61.2.2 qh j ≠ none := by
                      intro j hj; rw [(hs.o (gx.S hM) trivial rfl).1] at hj; rw [(hs.a (gqh.S hM) rfl j).2]; exact pf_x_13 j hj
                    replace hM := hM.tr (hs.mono (by decide))
                    replace gq_6 := gq_6.S hs
                    replace gq_11 := gq_11.S hs
                    replace gq_23 := gq_23.S hs
                    replace gq_26 := gq_26.S hs
                    replace gq_31 := gq_31.S hs
                    replace gq_55 := gq_55.S hs
                    have f_62 : h_61.2.1 q_6 12 = r_58 := by rw [eh_61]; exact hx_pi_at _ _ _ _
                    refine lv_aload_n hx hb dX9_hear_216 rfl (lv_at hl 3 rfl) ?_
                    refine hk_getr hx hb hts hC_9 hown hW (gx.S hM) tt_9 12 (by decide) rfl kw_376 ⟨rfl, rfl, rfl⟩ ((hM.o gx trivial rfl).2.trans f_x_12) dX9_hear_217 ?_
                    refine lv_aload_n hx hb dX9_hear_220 rfl (lv_at hl 3 rfl) ?_
                    refine hk_geti hx hb hts hC_9 hown hW (gx.S hM) tt_9 13 (by decide) rfl kw_377 ⟨rfl, rfl, rfl⟩ fx_15 dX9_hear_221 ?_
                    refine lv_aload hx hb dX9_hear_224 (lv_at hl 2 rfl) ?_
                    have pf_x_13O := pf_x_13
                    refine hx_aast hx hb hW hT (hx_S.rf (M := [(46, 0)])) (gqh.S hM) tt_46 rfl gq_6 tt_2 rfl (by decide) ⟨by omega, by omega⟩ (List.mem_singleton.mpr rfl) dX9_hear_226 (fun H locs h_63 eh_63 hW hT hs => ?_)
                    replace fx_7 := (hs.o gq_6 trivial rfl).1.trans fx_7
                    replace fq_11 := (hs.o gq_6 trivial rfl).2.trans fq_11
                    replace fx_12 := (hs.o gq_11 trivial rfl).1.trans fx_12
                    replace fx_15 := (hs.o (gx.S hM) trivial rfl).1.trans fx_15
                    replace fq_23 := (hs.o gq_6 trivial rfl).2.trans fq_23
                    replace fx_24 := (hs.o gq_23 trivial rfl).1.trans fx_24
                    replace fx_25 := (hs.o gq_11 trivial rfl).1.trans fx_25
                    replace fq_26 := (hs.o gq_6 trivial rfl).2.trans fq_26
                    replace fq_31 := (hs.o (gx.S hM) trivial rfl).2.trans fq_31
                    replace fx_32 := (hs.o gq_6 trivial rfl).1.trans fx_32
                    replace fx_52 := (hs.o (gx.S hM) trivial rfl).1.trans fx_52
                    replace f_54 := (hs.o gq_6 trivial rfl).1.trans f_54
                    replace fq_55 := (hs.o gq_6 trivial rfl).2.trans fq_55
                    replace f_62 := (hs.o gq_6 trivial rfl).1.trans f_62
                    replace pf_x_8 : ∀ j : Nat, (j : Int) < (h_63.2.1 x 8).toInt → h_63.2.2 qp j ≠ none := by
                      intro j hj; rw [(hs.o (gx.S hM) trivial rfl).1] at hj; rw [(hs.a (gqp.S hM) rfl j).2]; exact pf_x_8 j hj
                    replace pf_x_11 : ∀ j : Nat, (j : Int) < (h_63.2.1 x 11).toInt → h_63.2.2 qc j ≠ none := by
                      intro j hj; rw [(hs.o (gx.S hM) trivial rfl).1] at hj; rw [(hs.a (gqc.S hM) rfl j).2]; exact pf_x_11 j hj
                    replace hM := hM.tr (hs.mono (by decide))
                    replace gq_6 := gq_6.S hs
                    replace gq_11 := gq_11.S hs
                    replace gq_23 := gq_23.S hs
                    replace gq_26 := gq_26.S hs
                    replace gq_31 := gq_31.S hs
                    replace gq_55 := gq_55.S hs
                    have pf_x_13 : ∀ j : Nat, (j : Int) < (h_63.2.1 x 13).toInt → h_63.2.2 qh j ≠ none := hx_pfk pf_x_13O eh_63
                    have px_64 : ∀ j : Nat, (j : Int) < x_15.toInt + 1 → h_63.2.2 qh j ≠ none := hx_pfx pf_x_13O (by first | exact fx_15 | exact ((hs.o (gx.S hM) trivial rfl).1.symm.trans fx_15)) (by omega) eh_63
                    refine lv_aload_n hx hb dX9_hear_227 rfl (lv_at hl 3 rfl) ?_
                    refine lv_dup hx hb dX9_hear_228 rfl ?_
                    refine hk_geti hx hb hts hC_9 hown hW (gx.S hM) tt_9 13 (by decide) rfl kw_377 ⟨rfl, rfl, rfl⟩ fx_15 dX9_hear_229 ?_
                    refine lv_iconst (v := 1) hx hb dX9_hear_232 (by decide) ?_
                    refine lv_iadd hx hb dX9_hear_233 ?_
                    have rg_65 := i32_r x_15
                    refine lv_topi (fun x_66 ex_66 => ?_)
                    have zx_66 : x_66.toInt = x_15.toInt + 1 := by rw [ex_66]; exact i32_add rfl (by decide) (by omega) (by omega)
                    refine hx_puti hx hb hts hC_9 hown hW hT (hx_S.rf (M := [(9, 13)])) (gx.S hM) tt_9 13 (by decide) rfl kw_377 ⟨rfl, rfl, rfl⟩ rfl (x := x_66) ⟨by omega, by omega⟩ rfl rfl rfl (List.mem_singleton.mpr rfl) dX9_hear_234 (fun H locs h_67 eh_67 hW hT hs => ?_)
                    replace px_64 : ∀ j : Nat, (j : Int) < x_15.toInt + 1 → h_67.2.2 qh j ≠ none := fun j hj => by rw [(hs.a (gqh.S hM) rfl j).2]; exact px_64 j hj
                    replace fx_7 := (hs.o gq_6 trivial rfl).1.trans fx_7
                    replace fq_11 := (hs.o gq_6 trivial rfl).2.trans fq_11
                    replace fx_12 := (hs.o gq_11 trivial rfl).1.trans fx_12
                    replace fq_23 := (hs.o gq_6 trivial rfl).2.trans fq_23
                    replace fx_24 := (hs.o gq_23 trivial rfl).1.trans fx_24
                    replace fx_25 := (hs.o gq_11 trivial rfl).1.trans fx_25
                    replace fq_26 := (hs.o gq_6 trivial rfl).2.trans fq_26
                    replace fq_31 := (hs.o (gx.S hM) trivial rfl).2.trans fq_31
                    replace fx_32 := (hs.o gq_6 trivial rfl).1.trans fx_32
                    replace fx_52 := (hs.o (gx.S hM) trivial rfl).1.trans fx_52
                    replace f_54 := (hs.o gq_6 trivial rfl).1.trans f_54
                    replace fq_55 := (hs.o gq_6 trivial rfl).2.trans fq_55
                    replace f_62 := (hs.o gq_6 trivial rfl).1.trans f_62
                    replace pf_x_8 : ∀ j : Nat, (j : Int) < (h_67.2.1 x 8).toInt → h_67.2.2 qp j ≠ none := by
                      intro j hj; rw [(hs.o (gx.S hM) trivial rfl).1] at hj; rw [(hs.a (gqp.S hM) rfl j).2]; exact pf_x_8 j hj
                    replace pf_x_11 : ∀ j : Nat, (j : Int) < (h_67.2.1 x 11).toInt → h_67.2.2 qc j ≠ none := by
                      intro j hj; rw [(hs.o (gx.S hM) trivial rfl).1] at hj; rw [(hs.a (gqc.S hM) rfl j).2]; exact pf_x_11 j hj
                    replace hM := hM.tr (hs.mono (by decide))
                    replace gq_6 := gq_6.S hs
                    replace gq_11 := gq_11.S hs
                    replace gq_23 := gq_23.S hs
                    replace gq_26 := gq_26.S hs
                    replace gq_31 := gq_31.S hs
                    replace gq_55 := gq_55.S hs
                    have f_68 : h_67.2.1 x 13 = x_66 := by rw [eh_67]; exact hx_pi_at _ _ _ _
                    have pf_69 : ∀ j : Nat, (j : Int) < (h_67.2.1 x 13).toInt → h_67.2.2 qh j ≠ none := fun j hj => px_64 j (by rw [f_68] at hj; omega)
                    refine lv_aload hx hb dX9_hear_237 (lv_at hl 2 rfl) ?_
                    refine hk_geti hx hb hts hC_2 hown hW gq_6 tt_2 12 (by decide) rfl kw_751 ⟨rfl, rfl, rfl⟩ f_62 dX9_hear_239 ?_
                    exact hx_reti hx hb hr hlk hW ⟨trivial, hT, hM, pf_69⟩ dX9_hear_242
                  refine hb_if_eq (zx := i3.toInt) (tgt := 118) hx hb rfl dX9_hear_111 (by decide) (fun c_70 => ?_) (fun c_70 => ?_)
                  · skip
                    refine lv_iconst (v := 0) hx hb dX9_hear_118 (by decide) ?_
                    exact jn_119 (0 : Int32) ls (by decide) (by decide) hl
                  · skip
                    refine lv_iconst (v := 1) hx hb dX9_hear_114 (by decide) ?_
                    refine lv_goto (tgt := 119) hx hb dX9_hear_115 (by decide) ?_
                    exact jn_119 (1 : Int32) ls (by decide) (by decide) hl
                refine hb_if_eq (zx := i2.toInt) (tgt := 102) hx hb rfl dX9_hear_95 (by decide) (fun c_71 => ?_) (fun c_71 => ?_)
                · skip
                  refine lv_iconst (v := 0) hx hb dX9_hear_102 (by decide) ?_
                  exact jn_103 (0 : Int32) ls (by decide) (by decide) hl
                · skip
                  refine lv_iconst (v := 1) hx hb dX9_hear_98 (by decide) ?_
                  refine lv_goto (tgt := 103) hx hb dX9_hear_99 (by decide) ?_
                  exact jn_103 (1 : Int32) ls (by decide) (by decide) hl
              · skip
                refine lv_iconst (v := -1) hx hb dX9_hear_66 (by decide) ?_
                exact hx_reti hx hb hr hlk hW ⟨trivial, hT, hM, pf_x_13⟩ dX9_hear_67

def wLX9_isBeyondDoubt_0 : List Nat := [9, 65, 10, 55, 4, 3, 54, 6, 21, 6, 26, 163, 0, 36, 21, 6, 27, 161, 0, 8, 32, 22, 4, 97, 65, 22, 4, 26, 21, 6, 100, 133, 105, 21, 6, 4, 96, 133, 109, 55, 4, 132, 6, 1, 167, 255, 220, 32, 10, 26, 121, 20, 1, 147, 109, 148, 157, 0, 7, 4, 167, 0, 4, 3]
def wLX9_isBeyondDoubt_1 : List Nat := [172]
theorem wX9_isBeyondDoubt_0 : (cX9_isBeyondDoubt.data.toList.map UInt8.toNat).drop 0 = wLX9_isBeyondDoubt_0 ++ (wLX9_isBeyondDoubt_1 ++ ([])) := by decide +kernel
theorem wX9_isBeyondDoubt_1 : (cX9_isBeyondDoubt.data.toList.map UInt8.toNat).drop 64 = wLX9_isBeyondDoubt_1 ++ ([]) := hz_wn wX9_isBeyondDoubt_0 rfl
theorem dX9_isBeyondDoubt_0 : decode cX9_isBeyondDoubt 0 = .ok (.lconst 0, 1) := dq_9 (hz_wg wX9_isBeyondDoubt_0 (j := 0) (n := 9) rfl)
theorem dX9_isBeyondDoubt_1 : decode cX9_isBeyondDoubt 1 = .ok (.lstore_n 2, 1) := dq_65 (hz_wg wX9_isBeyondDoubt_0 (j := 1) (n := 65) rfl)
theorem dX9_isBeyondDoubt_2 : decode cX9_isBeyondDoubt 2 = .ok (.lconst 1, 1) := dq_10 (hz_wg wX9_isBeyondDoubt_0 (j := 2) (n := 10) rfl)
theorem dX9_isBeyondDoubt_3 : decode cX9_isBeyondDoubt 3 = .ok (.lstore 4, 2) := dq_55 (hz_wg wX9_isBeyondDoubt_0 (j := 3) (n := 55) rfl) (hz_wg wX9_isBeyondDoubt_0 (j := 4) (n := 4) rfl)
theorem dX9_isBeyondDoubt_5 : decode cX9_isBeyondDoubt 5 = .ok (.iconst 0, 1) := dq_3 (hz_wg wX9_isBeyondDoubt_0 (j := 5) (n := 3) rfl)
theorem dX9_isBeyondDoubt_6 : decode cX9_isBeyondDoubt 6 = .ok (.istore 6, 2) := dq_54 (hz_wg wX9_isBeyondDoubt_0 (j := 6) (n := 54) rfl) (hz_wg wX9_isBeyondDoubt_0 (j := 7) (n := 6) rfl)
theorem dX9_isBeyondDoubt_8 : decode cX9_isBeyondDoubt 8 = .ok (.iload 6, 2) := dq_21 (hz_wg wX9_isBeyondDoubt_0 (j := 8) (n := 21) rfl) (hz_wg wX9_isBeyondDoubt_0 (j := 9) (n := 6) rfl)
theorem dX9_isBeyondDoubt_10 : decode cX9_isBeyondDoubt 10 = .ok (.iload_n 0, 1) := dq_26 (hz_wg wX9_isBeyondDoubt_0 (j := 10) (n := 26) rfl)
theorem dX9_isBeyondDoubt_11 : decode cX9_isBeyondDoubt 11 = .ok (.if_icmp .gt 36, 3) := dq_163 (hz_wg wX9_isBeyondDoubt_0 (j := 11) (n := 163) rfl) (hz_wg wX9_isBeyondDoubt_0 (j := 12) (n := 0) rfl) (hz_wg wX9_isBeyondDoubt_0 (j := 13) (n := 36) rfl) (by decide)
theorem dX9_isBeyondDoubt_14 : decode cX9_isBeyondDoubt 14 = .ok (.iload 6, 2) := dq_21 (hz_wg wX9_isBeyondDoubt_0 (j := 14) (n := 21) rfl) (hz_wg wX9_isBeyondDoubt_0 (j := 15) (n := 6) rfl)
theorem dX9_isBeyondDoubt_16 : decode cX9_isBeyondDoubt 16 = .ok (.iload_n 1, 1) := dq_27 (hz_wg wX9_isBeyondDoubt_0 (j := 16) (n := 27) rfl)
theorem dX9_isBeyondDoubt_17 : decode cX9_isBeyondDoubt 17 = .ok (.if_icmp .lt 8, 3) := dq_161 (hz_wg wX9_isBeyondDoubt_0 (j := 17) (n := 161) rfl) (hz_wg wX9_isBeyondDoubt_0 (j := 18) (n := 0) rfl) (hz_wg wX9_isBeyondDoubt_0 (j := 19) (n := 8) rfl) (by decide)
theorem dX9_isBeyondDoubt_20 : decode cX9_isBeyondDoubt 20 = .ok (.lload_n 2, 1) := dq_32 (hz_wg wX9_isBeyondDoubt_0 (j := 20) (n := 32) rfl)
theorem dX9_isBeyondDoubt_21 : decode cX9_isBeyondDoubt 21 = .ok (.lload 4, 2) := dq_22 (hz_wg wX9_isBeyondDoubt_0 (j := 21) (n := 22) rfl) (hz_wg wX9_isBeyondDoubt_0 (j := 22) (n := 4) rfl)
theorem dX9_isBeyondDoubt_23 : decode cX9_isBeyondDoubt 23 = .ok (.ladd, 1) := dq_97 (hz_wg wX9_isBeyondDoubt_0 (j := 23) (n := 97) rfl)
theorem dX9_isBeyondDoubt_24 : decode cX9_isBeyondDoubt 24 = .ok (.lstore_n 2, 1) := dq_65 (hz_wg wX9_isBeyondDoubt_0 (j := 24) (n := 65) rfl)
theorem dX9_isBeyondDoubt_25 : decode cX9_isBeyondDoubt 25 = .ok (.lload 4, 2) := dq_22 (hz_wg wX9_isBeyondDoubt_0 (j := 25) (n := 22) rfl) (hz_wg wX9_isBeyondDoubt_0 (j := 26) (n := 4) rfl)
theorem dX9_isBeyondDoubt_27 : decode cX9_isBeyondDoubt 27 = .ok (.iload_n 0, 1) := dq_26 (hz_wg wX9_isBeyondDoubt_0 (j := 27) (n := 26) rfl)
theorem dX9_isBeyondDoubt_28 : decode cX9_isBeyondDoubt 28 = .ok (.iload 6, 2) := dq_21 (hz_wg wX9_isBeyondDoubt_0 (j := 28) (n := 21) rfl) (hz_wg wX9_isBeyondDoubt_0 (j := 29) (n := 6) rfl)
theorem dX9_isBeyondDoubt_30 : decode cX9_isBeyondDoubt 30 = .ok (.isub, 1) := dq_100 (hz_wg wX9_isBeyondDoubt_0 (j := 30) (n := 100) rfl)
theorem dX9_isBeyondDoubt_31 : decode cX9_isBeyondDoubt 31 = .ok (.i2l, 1) := dq_133 (hz_wg wX9_isBeyondDoubt_0 (j := 31) (n := 133) rfl)
theorem dX9_isBeyondDoubt_32 : decode cX9_isBeyondDoubt 32 = .ok (.lmul, 1) := dq_105 (hz_wg wX9_isBeyondDoubt_0 (j := 32) (n := 105) rfl)
theorem dX9_isBeyondDoubt_33 : decode cX9_isBeyondDoubt 33 = .ok (.iload 6, 2) := dq_21 (hz_wg wX9_isBeyondDoubt_0 (j := 33) (n := 21) rfl) (hz_wg wX9_isBeyondDoubt_0 (j := 34) (n := 6) rfl)
theorem dX9_isBeyondDoubt_35 : decode cX9_isBeyondDoubt 35 = .ok (.iconst 1, 1) := dq_4 (hz_wg wX9_isBeyondDoubt_0 (j := 35) (n := 4) rfl)
theorem dX9_isBeyondDoubt_36 : decode cX9_isBeyondDoubt 36 = .ok (.iadd, 1) := dq_96 (hz_wg wX9_isBeyondDoubt_0 (j := 36) (n := 96) rfl)
theorem dX9_isBeyondDoubt_37 : decode cX9_isBeyondDoubt 37 = .ok (.i2l, 1) := dq_133 (hz_wg wX9_isBeyondDoubt_0 (j := 37) (n := 133) rfl)
theorem dX9_isBeyondDoubt_38 : decode cX9_isBeyondDoubt 38 = .ok (.ldiv, 1) := dq_109 (hz_wg wX9_isBeyondDoubt_0 (j := 38) (n := 109) rfl)
theorem dX9_isBeyondDoubt_39 : decode cX9_isBeyondDoubt 39 = .ok (.lstore 4, 2) := dq_55 (hz_wg wX9_isBeyondDoubt_0 (j := 39) (n := 55) rfl) (hz_wg wX9_isBeyondDoubt_0 (j := 40) (n := 4) rfl)
theorem dX9_isBeyondDoubt_41 : decode cX9_isBeyondDoubt 41 = .ok (.iinc 6 1, 3) := dq_132 (hz_wg wX9_isBeyondDoubt_0 (j := 41) (n := 132) rfl) (hz_wg wX9_isBeyondDoubt_0 (j := 42) (n := 6) rfl) (hz_wg wX9_isBeyondDoubt_0 (j := 43) (n := 1) rfl) (by decide)
theorem dX9_isBeyondDoubt_44 : decode cX9_isBeyondDoubt 44 = .ok (.goto (-36), 3) := dq_167 (hz_wg wX9_isBeyondDoubt_0 (j := 44) (n := 167) rfl) (hz_wg wX9_isBeyondDoubt_0 (j := 45) (n := 255) rfl) (hz_wg wX9_isBeyondDoubt_0 (j := 46) (n := 220) rfl) (by decide)
theorem dX9_isBeyondDoubt_47 : decode cX9_isBeyondDoubt 47 = .ok (.lload_n 2, 1) := dq_32 (hz_wg wX9_isBeyondDoubt_0 (j := 47) (n := 32) rfl)
theorem dX9_isBeyondDoubt_48 : decode cX9_isBeyondDoubt 48 = .ok (.lconst 1, 1) := dq_10 (hz_wg wX9_isBeyondDoubt_0 (j := 48) (n := 10) rfl)
theorem dX9_isBeyondDoubt_49 : decode cX9_isBeyondDoubt 49 = .ok (.iload_n 0, 1) := dq_26 (hz_wg wX9_isBeyondDoubt_0 (j := 49) (n := 26) rfl)
theorem dX9_isBeyondDoubt_50 : decode cX9_isBeyondDoubt 50 = .ok (.lshl, 1) := dq_121 (hz_wg wX9_isBeyondDoubt_0 (j := 50) (n := 121) rfl)
theorem dX9_isBeyondDoubt_51 : decode cX9_isBeyondDoubt 51 = .ok (.ldc2_w 403, 3) := dq_20 (hz_wg wX9_isBeyondDoubt_0 (j := 51) (n := 20) rfl) (hz_wg wX9_isBeyondDoubt_0 (j := 52) (n := 1) rfl) (hz_wg wX9_isBeyondDoubt_0 (j := 53) (n := 147) rfl) rfl
theorem dX9_isBeyondDoubt_54 : decode cX9_isBeyondDoubt 54 = .ok (.ldiv, 1) := dq_109 (hz_wg wX9_isBeyondDoubt_0 (j := 54) (n := 109) rfl)
theorem dX9_isBeyondDoubt_55 : decode cX9_isBeyondDoubt 55 = .ok (.lcmp, 1) := dq_148 (hz_wg wX9_isBeyondDoubt_0 (j := 55) (n := 148) rfl)
theorem dX9_isBeyondDoubt_56 : decode cX9_isBeyondDoubt 56 = .ok (.ifCond .gt 7, 3) := dq_157 (hz_wg wX9_isBeyondDoubt_0 (j := 56) (n := 157) rfl) (hz_wg wX9_isBeyondDoubt_0 (j := 57) (n := 0) rfl) (hz_wg wX9_isBeyondDoubt_0 (j := 58) (n := 7) rfl) (by decide)
theorem dX9_isBeyondDoubt_59 : decode cX9_isBeyondDoubt 59 = .ok (.iconst 1, 1) := dq_4 (hz_wg wX9_isBeyondDoubt_0 (j := 59) (n := 4) rfl)
theorem dX9_isBeyondDoubt_60 : decode cX9_isBeyondDoubt 60 = .ok (.goto 4, 3) := dq_167 (hz_wg wX9_isBeyondDoubt_0 (j := 60) (n := 167) rfl) (hz_wg wX9_isBeyondDoubt_0 (j := 61) (n := 0) rfl) (hz_wg wX9_isBeyondDoubt_0 (j := 62) (n := 4) rfl) (by decide)
theorem dX9_isBeyondDoubt_63 : decode cX9_isBeyondDoubt 63 = .ok (.iconst 0, 1) := dq_3 (hz_wg wX9_isBeyondDoubt_0 (j := 63) (n := 3) rfl)
theorem dX9_isBeyondDoubt_64 : decode cX9_isBeyondDoubt 64 = .ok (.ireturn, 1) := dq_172 (hz_wg wX9_isBeyondDoubt_1 (j := 0) (n := 172) rfl)
set_option maxHeartbeats 4000000 in
set_option maxRecDepth 100000 in
theorem t_X9_isBeyondDoubt (l : Launch) (dC : Nat → ClassId) (dI : Nat → Nat → Nat) (dA : Nat → ClassId) (L : List Nat) (h : hx_h) (sz : Nat) (i1 : Int32) (i2 : Int32) (hT : hx_T T_tb L h)  (hi1 : 0 ≤ i1.toInt ∧ i1.toInt ≤ 60) : Met l yX9_isBeyondDoubt (Cond.code yX9_isBeyondDoubt cX9_isBeyondDoubt 7 (some .boolean) :: hx_all) ({ frames := 0, cells := 0, slots := 0, locals := 0 }) (va_Pc [.int i1, .int i2] (hx_B T_tb (P_ty dA) (dC, dI) vwCl L h sz)) (va_Qi (fun (r : Int32) (u : List Nat × hx_h) => (r.toInt = 0 ∨ r.toInt = 1) ∧ hx_T T_tb u.1 u.2 ∧ hx_S T_tb [] L h u.1 u.2) (hx_E T_tb (P_ty dA) (dC, dI) vwCl (hx_A L sz)) (hx_A L sz)) 0 0 (hx_A L sz) := by
  refine hx_met (lv := [(0, .int i1), (1, .int i2)]) (by decide +kernel) rfl (Nat.le_of_ble_eq_true rfl) rfl ?_
  intro p e s m below meth c hx hb hml hr hlk hts0 hown hin hsz hW ls hl
  have hts : ∀ w ∈ hx_all, w.before _ s = true := fun w hw => hts0 w (List.mem_cons_of_mem _ hw)
  have hown : s.vm.findClass "SmallCourt" = some m.cls := hown
  have hM : hx_S T_tb [] L h L h := hx_S.rf
  refine lv_lconst (v := 0) hx hb dX9_isBeyondDoubt_0 (by decide) ?_
  refine lv_lstore_n (lv' := [(2, .long (0 : Int64)), (0, .int i1), (1, .int i2)]) hx hb dX9_isBeyondDoubt_1 rfl hl (by decide) rfl (fun ls hl => ?_)
  refine lv_lconst (v := 1) hx hb dX9_isBeyondDoubt_2 (by decide) ?_
  refine lv_lstore (lv' := [(4, .long (1 : Int64)), (2, .long (0 : Int64)), (0, .int i1), (1, .int i2)]) hx hb dX9_isBeyondDoubt_3 hl (by decide) rfl (fun ls hl => ?_)
  refine lv_iconst (v := 0) hx hb dX9_isBeyondDoubt_5 (by decide) ?_
  refine lv_istore (lv' := [(6, .int (0 : Int32)), (4, .long (1 : Int64)), (2, .long (0 : Int64)), (0, .int i1), (1, .int i2)]) hx hb dX9_isBeyondDoubt_6 hl (by decide) rfl (fun ls hl => ?_)
  have loop8 : ∀ (n8 : Nat) (iv8_6 : Int32) (iv8_4 iv8_2 : Int64) (H : Heap) (locs : List Loc) (hL1 : List Nat) (hl1 : hx_h), 0 ≤ iv8_6.toInt → iv8_6.toInt ≤ 61 → ∀ (ls : Array Slot), 61 - iv8_6.toInt < (n8 : Int) → hx_W T_tb (P_ty dA) (dC, dI) vwCl (hx_A L sz) s.heap hL1 hl1 s H locs → hx_T T_tb hL1 hl1 → hx_S T_tb [] L h hL1 hl1 → lv_has ls 7 [(6, .int iv8_6), (4, .long iv8_4), (2, .long iv8_2), (0, .int i1), (1, .int i2)] → W p l e ({ frames := 0, cells := 0, slots := 0, locals := 0 }) s m ([.int i1, .int i2] : List Value).toArray below meth c H locs 0 0 (MQ below (va_Qi (fun (r : Int32) (u : List Nat × hx_h) => (r.toInt = 0 ∨ r.toInt = 1) ∧ hx_T T_tb u.1 u.2 ∧ hx_S T_tb [] L h u.1 u.2) (hx_E T_tb (P_ty dA) (dC, dI) vwCl (hx_A L sz)) (hx_A L sz)) ([.int i1, .int i2] : List Value).toArray s 0 0 (hx_A L sz)) (F0 m 8 ls []) := by
    intro n8
    induction n8 with
    | zero => intro iv8_6 iv8_4 iv8_2 H locs hL1 hl1 bliv8_6 buiv8_6  ls hn8; exfalso; omega
    | succ n8 ih8 =>
      intro iv8_6 iv8_4 iv8_2 H locs hL1 hl1 bliv8_6 buiv8_6  ls hn8 hW hT hM   hl
      refine lv_iload hx hb dX9_isBeyondDoubt_8 (lv_at hl 0 rfl) ?_
      refine lv_iload_n hx hb dX9_isBeyondDoubt_10 rfl (lv_at hl 3 rfl) ?_
      refine hb_icmp_gt (zx := iv8_6.toInt) (zy := i1.toInt) (tgt := 47) hx hb rfl rfl dX9_isBeyondDoubt_11 (by decide) (fun c_1 => ?_) (fun c_1 => ?_)
      · skip
        refine lv_lload_n hx hb dX9_isBeyondDoubt_47 rfl (lv_at hl 2 rfl) ?_
        refine lv_lconst (v := 1) hx hb dX9_isBeyondDoubt_48 (by decide) ?_
        refine lv_iload_n hx hb dX9_isBeyondDoubt_49 rfl (lv_at hl 3 rfl) ?_
        refine lv_lshl hx hb dX9_isBeyondDoubt_50 rfl ?_
        refine lv_topl (fun x_2 ex_2 => ?_)
        refine lv_ldc2 (v := 20) hx hb hown (hts _ kw_1100) dX9_isBeyondDoubt_51 ?_
        refine lv_ldiv hx hb dX9_isBeyondDoubt_54 (by decide) ?_
        refine lv_topl (fun x_3 ex_3 => ?_)
        refine lv_lcmp hx hb dX9_isBeyondDoubt_55 (fun x_4 => ?_)
        have jn_64 : ∀ (xj_5 : Int32) (ls : Array Slot), 0 ≤ xj_5.toInt → xj_5.toInt ≤ 1 → lv_has ls 7 [(6, .int iv8_6), (4, .long iv8_4), (2, .long iv8_2), (0, .int i1), (1, .int i2)] → W p l e ({ frames := 0, cells := 0, slots := 0, locals := 0 }) s m ([.int i1, .int i2] : List Value).toArray below meth c H locs 0 0 (MQ below (va_Qi (fun (r : Int32) (u : List Nat × hx_h) => (r.toInt = 0 ∨ r.toInt = 1) ∧ hx_T T_tb u.1 u.2 ∧ hx_S T_tb [] L h u.1 u.2) (hx_E T_tb (P_ty dA) (dC, dI) vwCl (hx_A L sz)) (hx_A L sz)) ([.int i1, .int i2] : List Value).toArray s 0 0 (hx_A L sz)) (F0 m 64 ls [.int xj_5]) := by
          intro xj_5 ls blxj_5 buxj_5 hl
          exact hx_retz hx hb hr (hx_nar01 (by omega)) hlk hW ⟨(by omega), hT, hM⟩ dX9_isBeyondDoubt_64
        refine hb_if_gt (zx := x_4.toInt) (tgt := 63) hx hb rfl dX9_isBeyondDoubt_56 (by decide) (fun c_6 => ?_) (fun c_6 => ?_)
        · skip
          refine lv_iconst (v := 0) hx hb dX9_isBeyondDoubt_63 (by decide) ?_
          exact jn_64 (0 : Int32) ls (by decide) (by decide) hl
        · skip
          refine lv_iconst (v := 1) hx hb dX9_isBeyondDoubt_59 (by decide) ?_
          refine lv_goto (tgt := 64) hx hb dX9_isBeyondDoubt_60 (by decide) ?_
          exact jn_64 (1 : Int32) ls (by decide) (by decide) hl
      · skip
        refine lv_iload hx hb dX9_isBeyondDoubt_14 (lv_at hl 0 rfl) ?_
        refine lv_iload_n hx hb dX9_isBeyondDoubt_16 rfl (lv_at hl 4 rfl) ?_
        refine hb_icmp_lt (zx := iv8_6.toInt) (zy := i2.toInt) (tgt := 25) hx hb rfl rfl dX9_isBeyondDoubt_17 (by decide) (fun c_7 => ?_) (fun c_7 => ?_)
        · skip
          refine lv_lload hx hb dX9_isBeyondDoubt_25 (lv_at hl 1 rfl) ?_
          refine lv_iload_n hx hb dX9_isBeyondDoubt_27 rfl (lv_at hl 3 rfl) ?_
          refine lv_iload hx hb dX9_isBeyondDoubt_28 (lv_at hl 0 rfl) ?_
          refine lv_isub hx hb dX9_isBeyondDoubt_30 ?_
          have rg_8 := i32_r i1
          have rg_9 := i32_r iv8_6
          refine lv_topi (fun x_10 ex_10 => ?_)
          have zx_10 : x_10.toInt = i1.toInt - iv8_6.toInt := by rw [ex_10]; exact i32_sub rfl rfl (by omega) (by omega)
          refine lv_i2l hx hb dX9_isBeyondDoubt_31 rfl ?_
          refine lv_topl (fun x_11 ex_11 => ?_)
          refine lv_lmul hx hb dX9_isBeyondDoubt_32 ?_
          refine lv_topl (fun x_12 ex_12 => ?_)
          refine lv_iload hx hb dX9_isBeyondDoubt_33 (lv_at hl 0 rfl) ?_
          refine lv_iconst (v := 1) hx hb dX9_isBeyondDoubt_35 (by decide) ?_
          refine lv_iadd hx hb dX9_isBeyondDoubt_36 ?_
          refine lv_topi (fun x_13 ex_13 => ?_)
          have zx_13 : x_13.toInt = iv8_6.toInt + 1 := by rw [ex_13]; exact i32_add rfl (by decide) (by omega) (by omega)
          refine lv_i2l hx hb dX9_isBeyondDoubt_37 rfl ?_
          refine lv_topl (fun x_14 ex_14 => ?_)
          have nx_14 : ¬ x_14 = 0 := by rw [ex_14]; exact hx_l0 (by omega)
          refine lv_ldiv hx hb dX9_isBeyondDoubt_38 nx_14 ?_
          refine lv_topl (fun x_15 ex_15 => ?_)
          refine lv_lstore (lv' := [(4, .long x_15), (6, .int iv8_6), (2, .long iv8_2), (0, .int i1), (1, .int i2)]) hx hb dX9_isBeyondDoubt_39 hl (by decide) rfl (fun ls hl => ?_)
          obtain ⟨x_16, ex_16⟩ : ∃ y : Int32, y = iv8_6 + Int32.ofInt 1 := ⟨_, rfl⟩
          have zx_16 : x_16.toInt = iv8_6.toInt + (1) := by rw [ex_16]; exact i32_add rfl (by decide) (by omega) (by omega)
          refine lv_iinc (v := x_16) (lv' := [(6, .int x_16), (4, .long x_15), (2, .long iv8_2), (0, .int i1), (1, .int i2)]) hx hb dX9_isBeyondDoubt_41 hl (k := 1) rfl ex_16.symm (by decide) rfl (fun ls hl => ?_)
          refine lv_goto (tgt := 8) hx hb dX9_isBeyondDoubt_44 (by decide) ?_
          exact ih8 x_16 x_15 iv8_2 _ _ hL1 hl1 (by omega) (by omega)  ls (by omega) hW hT hM   (lv_sub hl [0, 1, 2, 3, 4] rfl)
        · skip
          refine lv_lload_n hx hb dX9_isBeyondDoubt_20 rfl (lv_at hl 2 rfl) ?_
          refine lv_lload hx hb dX9_isBeyondDoubt_21 (lv_at hl 1 rfl) ?_
          refine lv_ladd hx hb dX9_isBeyondDoubt_23 ?_
          refine lv_topl (fun x_17 ex_17 => ?_)
          refine lv_lstore_n (lv' := [(2, .long x_17), (6, .int iv8_6), (4, .long iv8_4), (0, .int i1), (1, .int i2)]) hx hb dX9_isBeyondDoubt_24 rfl hl (by decide) rfl (fun ls hl => ?_)
          refine lv_lload hx hb dX9_isBeyondDoubt_25 (lv_at hl 2 rfl) ?_
          refine lv_iload_n hx hb dX9_isBeyondDoubt_27 rfl (lv_at hl 3 rfl) ?_
          refine lv_iload hx hb dX9_isBeyondDoubt_28 (lv_at hl 1 rfl) ?_
          refine lv_isub hx hb dX9_isBeyondDoubt_30 ?_
          have rg_18 := i32_r i1
          have rg_19 := i32_r iv8_6
          refine lv_topi (fun x_20 ex_20 => ?_)
          have zx_20 : x_20.toInt = i1.toInt - iv8_6.toInt := by rw [ex_20]; exact i32_sub rfl rfl (by omega) (by omega)
          refine lv_i2l hx hb dX9_isBeyondDoubt_31 rfl ?_
          refine lv_topl (fun x_21 ex_21 => ?_)
          refine lv_lmul hx hb dX9_isBeyondDoubt_32 ?_
          refine lv_topl (fun x_22 ex_22 => ?_)
          refine lv_iload hx hb dX9_isBeyondDoubt_33 (lv_at hl 1 rfl) ?_
          refine lv_iconst (v := 1) hx hb dX9_isBeyondDoubt_35 (by decide) ?_
          refine lv_iadd hx hb dX9_isBeyondDoubt_36 ?_
          refine lv_topi (fun x_23 ex_23 => ?_)
          have zx_23 : x_23.toInt = iv8_6.toInt + 1 := by rw [ex_23]; exact i32_add rfl (by decide) (by omega) (by omega)
          refine lv_i2l hx hb dX9_isBeyondDoubt_37 rfl ?_
          refine lv_topl (fun x_24 ex_24 => ?_)
          have nx_24 : ¬ x_24 = 0 := by rw [ex_24]; exact hx_l0 (by omega)
          refine lv_ldiv hx hb dX9_isBeyondDoubt_38 nx_24 ?_
          refine lv_topl (fun x_25 ex_25 => ?_)
          refine lv_lstore (lv' := [(4, .long x_25), (2, .long x_17), (6, .int iv8_6), (0, .int i1), (1, .int i2)]) hx hb dX9_isBeyondDoubt_39 hl (by decide) rfl (fun ls hl => ?_)
          obtain ⟨x_26, ex_26⟩ : ∃ y : Int32, y = iv8_6 + Int32.ofInt 1 := ⟨_, rfl⟩
          have zx_26 : x_26.toInt = iv8_6.toInt + (1) := by rw [ex_26]; exact i32_add rfl (by decide) (by omega) (by omega)
          refine lv_iinc (v := x_26) (lv' := [(6, .int x_26), (4, .long x_25), (2, .long x_17), (0, .int i1), (1, .int i2)]) hx hb dX9_isBeyondDoubt_41 hl (k := 2) rfl ex_26.symm (by decide) rfl (fun ls hl => ?_)
          refine lv_goto (tgt := 8) hx hb dX9_isBeyondDoubt_44 (by decide) ?_
          exact ih8 x_26 x_25 x_17 _ _ hL1 hl1 (by omega) (by omega)  ls (by omega) hW hT hM   (lv_sub hl [0, 1, 2, 3, 4] rfl)
  have zk_0 : (0 : Int32).toInt = 0 := by decide
  exact loop8 62 (0 : Int32) (1 : Int64) (0 : Int64) _ _ L h (by decide) (by decide)  ls (by omega) hW hT hM   hl

def wLX9_habit_0 : List Nat := [42, 27, 182, 0, 144, 78, 45, 198, 0, 10, 45, 180, 0, 155, 154, 0, 5, 2, 172, 3, 54, 4, 3, 54, 5, 42, 180, 0, 216, 4, 100, 54, 6, 21, 6, 155, 0, 71, 21, 4, 16, 60, 162, 0, 64, 42, 180, 0, 52, 21, 6, 50, 180, 0, 233, 7, 161, 0, 44, 42, 180, 0, 52, 21]
def wLX9_habit_1 : List Nat := [6, 50, 27, 182, 1, 141, 153, 0, 30, 132, 4, 1, 21, 5, 42, 180, 0, 52, 21, 6, 50, 180, 0, 233, 8, 160, 0, 7, 4, 167, 0, 4, 3, 96, 54, 5, 132, 6, 255, 167, 255, 186, 28, 170, 0, 0, 0, 64, 0, 0, 0, 0, 0, 0, 0, 2, 0, 0, 0, 25, 0, 0, 0, 28]
def wLX9_habit_2 : List Nat := [0, 0, 0, 31, 21, 4, 172, 21, 5, 172, 21, 4, 21, 5, 184, 1, 144, 153, 0, 7, 4, 167, 0, 21, 21, 4, 21, 4, 21, 5, 100, 184, 1, 144, 153, 0, 7, 5, 167, 0, 4, 3, 172, 2, 172]
theorem wX9_habit_0 : (cX9_habit.data.toList.map UInt8.toNat).drop 0 = wLX9_habit_0 ++ (wLX9_habit_1 ++ (wLX9_habit_2 ++ ([]))) := by decide +kernel
theorem wX9_habit_1 : (cX9_habit.data.toList.map UInt8.toNat).drop 64 = wLX9_habit_1 ++ (wLX9_habit_2 ++ ([])) := hz_wn wX9_habit_0 rfl
theorem wX9_habit_2 : (cX9_habit.data.toList.map UInt8.toNat).drop 128 = wLX9_habit_2 ++ ([]) := hz_wn wX9_habit_1 rfl
theorem dX9_habit_0 : decode cX9_habit 0 = .ok (.aload_n 0, 1) := dq_42 (hz_wg wX9_habit_0 (j := 0) (n := 42) rfl)
theorem dX9_habit_1 : decode cX9_habit 1 = .ok (.iload_n 1, 1) := dq_27 (hz_wg wX9_habit_0 (j := 1) (n := 27) rfl)
theorem dX9_habit_2 : decode cX9_habit 2 = .ok (.invokevirtual 144, 3) := dq_182 (hz_wg wX9_habit_0 (j := 2) (n := 182) rfl) (hz_wg wX9_habit_0 (j := 3) (n := 0) rfl) (hz_wg wX9_habit_0 (j := 4) (n := 144) rfl) rfl
theorem dX9_habit_5 : decode cX9_habit 5 = .ok (.astore_n 3, 1) := dq_78 (hz_wg wX9_habit_0 (j := 5) (n := 78) rfl)
theorem dX9_habit_6 : decode cX9_habit 6 = .ok (.aload_n 3, 1) := dq_45 (hz_wg wX9_habit_0 (j := 6) (n := 45) rfl)
theorem dX9_habit_7 : decode cX9_habit 7 = .ok (.ifnull 10, 3) := dq_198 (hz_wg wX9_habit_0 (j := 7) (n := 198) rfl) (hz_wg wX9_habit_0 (j := 8) (n := 0) rfl) (hz_wg wX9_habit_0 (j := 9) (n := 10) rfl) (by decide)
theorem dX9_habit_10 : decode cX9_habit 10 = .ok (.aload_n 3, 1) := dq_45 (hz_wg wX9_habit_0 (j := 10) (n := 45) rfl)
theorem dX9_habit_11 : decode cX9_habit 11 = .ok (.getfield 155, 3) := dq_180 (hz_wg wX9_habit_0 (j := 11) (n := 180) rfl) (hz_wg wX9_habit_0 (j := 12) (n := 0) rfl) (hz_wg wX9_habit_0 (j := 13) (n := 155) rfl) rfl
theorem dX9_habit_14 : decode cX9_habit 14 = .ok (.ifCond .ne 5, 3) := dq_154 (hz_wg wX9_habit_0 (j := 14) (n := 154) rfl) (hz_wg wX9_habit_0 (j := 15) (n := 0) rfl) (hz_wg wX9_habit_0 (j := 16) (n := 5) rfl) (by decide)
theorem dX9_habit_17 : decode cX9_habit 17 = .ok (.iconst (-1), 1) := dq_2 (hz_wg wX9_habit_0 (j := 17) (n := 2) rfl)
theorem dX9_habit_18 : decode cX9_habit 18 = .ok (.ireturn, 1) := dq_172 (hz_wg wX9_habit_0 (j := 18) (n := 172) rfl)
theorem dX9_habit_19 : decode cX9_habit 19 = .ok (.iconst 0, 1) := dq_3 (hz_wg wX9_habit_0 (j := 19) (n := 3) rfl)
theorem dX9_habit_20 : decode cX9_habit 20 = .ok (.istore 4, 2) := dq_54 (hz_wg wX9_habit_0 (j := 20) (n := 54) rfl) (hz_wg wX9_habit_0 (j := 21) (n := 4) rfl)
theorem dX9_habit_22 : decode cX9_habit 22 = .ok (.iconst 0, 1) := dq_3 (hz_wg wX9_habit_0 (j := 22) (n := 3) rfl)
theorem dX9_habit_23 : decode cX9_habit 23 = .ok (.istore 5, 2) := dq_54 (hz_wg wX9_habit_0 (j := 23) (n := 54) rfl) (hz_wg wX9_habit_0 (j := 24) (n := 5) rfl)
theorem dX9_habit_25 : decode cX9_habit 25 = .ok (.aload_n 0, 1) := dq_42 (hz_wg wX9_habit_0 (j := 25) (n := 42) rfl)
theorem dX9_habit_26 : decode cX9_habit 26 = .ok (.getfield 216, 3) := dq_180 (hz_wg wX9_habit_0 (j := 26) (n := 180) rfl) (hz_wg wX9_habit_0 (j := 27) (n := 0) rfl) (hz_wg wX9_habit_0 (j := 28) (n := 216) rfl) rfl
theorem dX9_habit_29 : decode cX9_habit 29 = .ok (.iconst 1, 1) := dq_4 (hz_wg wX9_habit_0 (j := 29) (n := 4) rfl)
theorem dX9_habit_30 : decode cX9_habit 30 = .ok (.isub, 1) := dq_100 (hz_wg wX9_habit_0 (j := 30) (n := 100) rfl)
theorem dX9_habit_31 : decode cX9_habit 31 = .ok (.istore 6, 2) := dq_54 (hz_wg wX9_habit_0 (j := 31) (n := 54) rfl) (hz_wg wX9_habit_0 (j := 32) (n := 6) rfl)
theorem dX9_habit_33 : decode cX9_habit 33 = .ok (.iload 6, 2) := dq_21 (hz_wg wX9_habit_0 (j := 33) (n := 21) rfl) (hz_wg wX9_habit_0 (j := 34) (n := 6) rfl)
theorem dX9_habit_35 : decode cX9_habit 35 = .ok (.ifCond .lt 71, 3) := dq_155 (hz_wg wX9_habit_0 (j := 35) (n := 155) rfl) (hz_wg wX9_habit_0 (j := 36) (n := 0) rfl) (hz_wg wX9_habit_0 (j := 37) (n := 71) rfl) (by decide)
theorem dX9_habit_38 : decode cX9_habit 38 = .ok (.iload 4, 2) := dq_21 (hz_wg wX9_habit_0 (j := 38) (n := 21) rfl) (hz_wg wX9_habit_0 (j := 39) (n := 4) rfl)
theorem dX9_habit_40 : decode cX9_habit 40 = .ok (.bipush 60, 2) := dq_16 (hz_wg wX9_habit_0 (j := 40) (n := 16) rfl) (hz_wg wX9_habit_0 (j := 41) (n := 60) rfl) (by decide)
theorem dX9_habit_42 : decode cX9_habit 42 = .ok (.if_icmp .ge 64, 3) := dq_162 (hz_wg wX9_habit_0 (j := 42) (n := 162) rfl) (hz_wg wX9_habit_0 (j := 43) (n := 0) rfl) (hz_wg wX9_habit_0 (j := 44) (n := 64) rfl) (by decide)
theorem dX9_habit_45 : decode cX9_habit 45 = .ok (.aload_n 0, 1) := dq_42 (hz_wg wX9_habit_0 (j := 45) (n := 42) rfl)
theorem dX9_habit_46 : decode cX9_habit 46 = .ok (.getfield 52, 3) := dq_180 (hz_wg wX9_habit_0 (j := 46) (n := 180) rfl) (hz_wg wX9_habit_0 (j := 47) (n := 0) rfl) (hz_wg wX9_habit_0 (j := 48) (n := 52) rfl) rfl
theorem dX9_habit_49 : decode cX9_habit 49 = .ok (.iload 6, 2) := dq_21 (hz_wg wX9_habit_0 (j := 49) (n := 21) rfl) (hz_wg wX9_habit_0 (j := 50) (n := 6) rfl)
theorem dX9_habit_51 : decode cX9_habit 51 = .ok (.aaload, 1) := dq_50 (hz_wg wX9_habit_0 (j := 51) (n := 50) rfl)
theorem dX9_habit_52 : decode cX9_habit 52 = .ok (.getfield 233, 3) := dq_180 (hz_wg wX9_habit_0 (j := 52) (n := 180) rfl) (hz_wg wX9_habit_0 (j := 53) (n := 0) rfl) (hz_wg wX9_habit_0 (j := 54) (n := 233) rfl) rfl
theorem dX9_habit_55 : decode cX9_habit 55 = .ok (.iconst 4, 1) := dq_7 (hz_wg wX9_habit_0 (j := 55) (n := 7) rfl)
theorem dX9_habit_56 : decode cX9_habit 56 = .ok (.if_icmp .lt 44, 3) := dq_161 (hz_wg wX9_habit_0 (j := 56) (n := 161) rfl) (hz_wg wX9_habit_0 (j := 57) (n := 0) rfl) (hz_wg wX9_habit_0 (j := 58) (n := 44) rfl) (by decide)
theorem dX9_habit_59 : decode cX9_habit 59 = .ok (.aload_n 0, 1) := dq_42 (hz_wg wX9_habit_0 (j := 59) (n := 42) rfl)
theorem dX9_habit_60 : decode cX9_habit 60 = .ok (.getfield 52, 3) := dq_180 (hz_wg wX9_habit_0 (j := 60) (n := 180) rfl) (hz_wg wX9_habit_0 (j := 61) (n := 0) rfl) (hz_wg wX9_habit_0 (j := 62) (n := 52) rfl) rfl
theorem dX9_habit_63 : decode cX9_habit 63 = .ok (.iload 6, 2) := dq_21 (hz_wg wX9_habit_0 (j := 63) (n := 21) rfl) (hz_wg wX9_habit_1 (j := 0) (n := 6) rfl)
theorem dX9_habit_65 : decode cX9_habit 65 = .ok (.aaload, 1) := dq_50 (hz_wg wX9_habit_1 (j := 1) (n := 50) rfl)
theorem dX9_habit_66 : decode cX9_habit 66 = .ok (.iload_n 1, 1) := dq_27 (hz_wg wX9_habit_1 (j := 2) (n := 27) rfl)
theorem dX9_habit_67 : decode cX9_habit 67 = .ok (.invokevirtual 397, 3) := dq_182 (hz_wg wX9_habit_1 (j := 3) (n := 182) rfl) (hz_wg wX9_habit_1 (j := 4) (n := 1) rfl) (hz_wg wX9_habit_1 (j := 5) (n := 141) rfl) rfl
theorem dX9_habit_70 : decode cX9_habit 70 = .ok (.ifCond .eq 30, 3) := dq_153 (hz_wg wX9_habit_1 (j := 6) (n := 153) rfl) (hz_wg wX9_habit_1 (j := 7) (n := 0) rfl) (hz_wg wX9_habit_1 (j := 8) (n := 30) rfl) (by decide)
theorem dX9_habit_73 : decode cX9_habit 73 = .ok (.iinc 4 1, 3) := dq_132 (hz_wg wX9_habit_1 (j := 9) (n := 132) rfl) (hz_wg wX9_habit_1 (j := 10) (n := 4) rfl) (hz_wg wX9_habit_1 (j := 11) (n := 1) rfl) (by decide)
theorem dX9_habit_76 : decode cX9_habit 76 = .ok (.iload 5, 2) := dq_21 (hz_wg wX9_habit_1 (j := 12) (n := 21) rfl) (hz_wg wX9_habit_1 (j := 13) (n := 5) rfl)
theorem dX9_habit_78 : decode cX9_habit 78 = .ok (.aload_n 0, 1) := dq_42 (hz_wg wX9_habit_1 (j := 14) (n := 42) rfl)
theorem dX9_habit_79 : decode cX9_habit 79 = .ok (.getfield 52, 3) := dq_180 (hz_wg wX9_habit_1 (j := 15) (n := 180) rfl) (hz_wg wX9_habit_1 (j := 16) (n := 0) rfl) (hz_wg wX9_habit_1 (j := 17) (n := 52) rfl) rfl
theorem dX9_habit_82 : decode cX9_habit 82 = .ok (.iload 6, 2) := dq_21 (hz_wg wX9_habit_1 (j := 18) (n := 21) rfl) (hz_wg wX9_habit_1 (j := 19) (n := 6) rfl)
theorem dX9_habit_84 : decode cX9_habit 84 = .ok (.aaload, 1) := dq_50 (hz_wg wX9_habit_1 (j := 20) (n := 50) rfl)
theorem dX9_habit_85 : decode cX9_habit 85 = .ok (.getfield 233, 3) := dq_180 (hz_wg wX9_habit_1 (j := 21) (n := 180) rfl) (hz_wg wX9_habit_1 (j := 22) (n := 0) rfl) (hz_wg wX9_habit_1 (j := 23) (n := 233) rfl) rfl
theorem dX9_habit_88 : decode cX9_habit 88 = .ok (.iconst 5, 1) := dq_8 (hz_wg wX9_habit_1 (j := 24) (n := 8) rfl)
theorem dX9_habit_89 : decode cX9_habit 89 = .ok (.if_icmp .ne 7, 3) := dq_160 (hz_wg wX9_habit_1 (j := 25) (n := 160) rfl) (hz_wg wX9_habit_1 (j := 26) (n := 0) rfl) (hz_wg wX9_habit_1 (j := 27) (n := 7) rfl) (by decide)
theorem dX9_habit_92 : decode cX9_habit 92 = .ok (.iconst 1, 1) := dq_4 (hz_wg wX9_habit_1 (j := 28) (n := 4) rfl)
theorem dX9_habit_93 : decode cX9_habit 93 = .ok (.goto 4, 3) := dq_167 (hz_wg wX9_habit_1 (j := 29) (n := 167) rfl) (hz_wg wX9_habit_1 (j := 30) (n := 0) rfl) (hz_wg wX9_habit_1 (j := 31) (n := 4) rfl) (by decide)
theorem dX9_habit_96 : decode cX9_habit 96 = .ok (.iconst 0, 1) := dq_3 (hz_wg wX9_habit_1 (j := 32) (n := 3) rfl)
theorem dX9_habit_97 : decode cX9_habit 97 = .ok (.iadd, 1) := dq_96 (hz_wg wX9_habit_1 (j := 33) (n := 96) rfl)
theorem dX9_habit_98 : decode cX9_habit 98 = .ok (.istore 5, 2) := dq_54 (hz_wg wX9_habit_1 (j := 34) (n := 54) rfl) (hz_wg wX9_habit_1 (j := 35) (n := 5) rfl)
theorem dX9_habit_100 : decode cX9_habit 100 = .ok (.iinc 6 (-1), 3) := dq_132 (hz_wg wX9_habit_1 (j := 36) (n := 132) rfl) (hz_wg wX9_habit_1 (j := 37) (n := 6) rfl) (hz_wg wX9_habit_1 (j := 38) (n := 255) rfl) (by decide)
theorem dX9_habit_103 : decode cX9_habit 103 = .ok (.goto (-70), 3) := dq_167 (hz_wg wX9_habit_1 (j := 39) (n := 167) rfl) (hz_wg wX9_habit_1 (j := 40) (n := 255) rfl) (hz_wg wX9_habit_1 (j := 41) (n := 186) rfl) (by decide)
theorem dX9_habit_106 : decode cX9_habit 106 = .ok (.iload_n 2, 1) := dq_28 (hz_wg wX9_habit_1 (j := 42) (n := 28) rfl)
theorem dX9_habit_107 : decode cX9_habit 107 = .ok (.tableswitch 64 0 2 #[25, 28, 31], 25) := by decide +kernel
theorem dX9_habit_132 : decode cX9_habit 132 = .ok (.iload 4, 2) := dq_21 (hz_wg wX9_habit_2 (j := 4) (n := 21) rfl) (hz_wg wX9_habit_2 (j := 5) (n := 4) rfl)
theorem dX9_habit_134 : decode cX9_habit 134 = .ok (.ireturn, 1) := dq_172 (hz_wg wX9_habit_2 (j := 6) (n := 172) rfl)
theorem dX9_habit_135 : decode cX9_habit 135 = .ok (.iload 5, 2) := dq_21 (hz_wg wX9_habit_2 (j := 7) (n := 21) rfl) (hz_wg wX9_habit_2 (j := 8) (n := 5) rfl)
theorem dX9_habit_137 : decode cX9_habit 137 = .ok (.ireturn, 1) := dq_172 (hz_wg wX9_habit_2 (j := 9) (n := 172) rfl)
theorem dX9_habit_138 : decode cX9_habit 138 = .ok (.iload 4, 2) := dq_21 (hz_wg wX9_habit_2 (j := 10) (n := 21) rfl) (hz_wg wX9_habit_2 (j := 11) (n := 4) rfl)
theorem dX9_habit_140 : decode cX9_habit 140 = .ok (.iload 5, 2) := dq_21 (hz_wg wX9_habit_2 (j := 12) (n := 21) rfl) (hz_wg wX9_habit_2 (j := 13) (n := 5) rfl)
theorem dX9_habit_142 : decode cX9_habit 142 = .ok (.invokestatic 400, 3) := dq_184 (hz_wg wX9_habit_2 (j := 14) (n := 184) rfl) (hz_wg wX9_habit_2 (j := 15) (n := 1) rfl) (hz_wg wX9_habit_2 (j := 16) (n := 144) rfl) rfl
theorem dX9_habit_145 : decode cX9_habit 145 = .ok (.ifCond .eq 7, 3) := dq_153 (hz_wg wX9_habit_2 (j := 17) (n := 153) rfl) (hz_wg wX9_habit_2 (j := 18) (n := 0) rfl) (hz_wg wX9_habit_2 (j := 19) (n := 7) rfl) (by decide)
theorem dX9_habit_148 : decode cX9_habit 148 = .ok (.iconst 1, 1) := dq_4 (hz_wg wX9_habit_2 (j := 20) (n := 4) rfl)
theorem dX9_habit_149 : decode cX9_habit 149 = .ok (.goto 21, 3) := dq_167 (hz_wg wX9_habit_2 (j := 21) (n := 167) rfl) (hz_wg wX9_habit_2 (j := 22) (n := 0) rfl) (hz_wg wX9_habit_2 (j := 23) (n := 21) rfl) (by decide)
theorem dX9_habit_152 : decode cX9_habit 152 = .ok (.iload 4, 2) := dq_21 (hz_wg wX9_habit_2 (j := 24) (n := 21) rfl) (hz_wg wX9_habit_2 (j := 25) (n := 4) rfl)
theorem dX9_habit_154 : decode cX9_habit 154 = .ok (.iload 4, 2) := dq_21 (hz_wg wX9_habit_2 (j := 26) (n := 21) rfl) (hz_wg wX9_habit_2 (j := 27) (n := 4) rfl)
theorem dX9_habit_156 : decode cX9_habit 156 = .ok (.iload 5, 2) := dq_21 (hz_wg wX9_habit_2 (j := 28) (n := 21) rfl) (hz_wg wX9_habit_2 (j := 29) (n := 5) rfl)
theorem dX9_habit_158 : decode cX9_habit 158 = .ok (.isub, 1) := dq_100 (hz_wg wX9_habit_2 (j := 30) (n := 100) rfl)
theorem dX9_habit_159 : decode cX9_habit 159 = .ok (.invokestatic 400, 3) := dq_184 (hz_wg wX9_habit_2 (j := 31) (n := 184) rfl) (hz_wg wX9_habit_2 (j := 32) (n := 1) rfl) (hz_wg wX9_habit_2 (j := 33) (n := 144) rfl) rfl
theorem dX9_habit_162 : decode cX9_habit 162 = .ok (.ifCond .eq 7, 3) := dq_153 (hz_wg wX9_habit_2 (j := 34) (n := 153) rfl) (hz_wg wX9_habit_2 (j := 35) (n := 0) rfl) (hz_wg wX9_habit_2 (j := 36) (n := 7) rfl) (by decide)
theorem dX9_habit_165 : decode cX9_habit 165 = .ok (.iconst 2, 1) := dq_5 (hz_wg wX9_habit_2 (j := 37) (n := 5) rfl)
theorem dX9_habit_166 : decode cX9_habit 166 = .ok (.goto 4, 3) := dq_167 (hz_wg wX9_habit_2 (j := 38) (n := 167) rfl) (hz_wg wX9_habit_2 (j := 39) (n := 0) rfl) (hz_wg wX9_habit_2 (j := 40) (n := 4) rfl) (by decide)
theorem dX9_habit_169 : decode cX9_habit 169 = .ok (.iconst 0, 1) := dq_3 (hz_wg wX9_habit_2 (j := 41) (n := 3) rfl)
theorem dX9_habit_170 : decode cX9_habit 170 = .ok (.ireturn, 1) := dq_172 (hz_wg wX9_habit_2 (j := 42) (n := 172) rfl)
theorem dX9_habit_171 : decode cX9_habit 171 = .ok (.iconst (-1), 1) := dq_2 (hz_wg wX9_habit_2 (j := 43) (n := 2) rfl)
theorem dX9_habit_172 : decode cX9_habit 172 = .ok (.ireturn, 1) := dq_172 (hz_wg wX9_habit_2 (j := 44) (n := 172) rfl)
set_option maxHeartbeats 4000000 in
set_option maxRecDepth 100000 in
theorem t_X9_habit (l : Launch) (dC : Nat → ClassId) (dI : Nat → Nat → Nat) (dA : Nat → ClassId) (L : List Nat) (h : hx_h) (sz : Nat) (x : Nat) (i1 : Int32) (i2 : Int32) (hT : hx_T T_tb L h) (gx : hx_g L h x 9) (qp : Nat) (gqp : hx_g L h qp 44) (f_x_7 : h.2.2 x 7 = some qp) (qh : Nat) (gqh : hx_g L h qh 46) (f_x_12 : h.2.2 x 12 = some qh) (pf_x_8 : ∀ j : Nat, (j : Int) < (h.2.1 x 8).toInt → h.2.2 qp j ≠ none) (pf_x_13 : ∀ j : Nat, (j : Int) < (h.2.1 x 13).toInt → h.2.2 qh j ≠ none) : Met l yX9_habit (Cond.code yX9_habit cX9_habit 7 (some .int) :: hx_all) ({ frames := 1, cells := 0, slots := 0, locals := 26 }) (va_Pc [.ref x, .int i1, .int i2] (hx_B T_tb (P_ty dA) (dC, dI) vwCl L h sz)) (va_Qi (fun (r : Int32) (u : List Nat × hx_h) => (True) ∧ hx_T T_tb u.1 u.2 ∧ hx_S T_tb [] L h u.1 u.2) (hx_E T_tb (P_ty dA) (dC, dI) vwCl (hx_A L sz)) (hx_A L sz)) 0 0 (hx_A L sz) := by
  refine hx_met (lv := [(0, .ref x), (1, .int i1), (2, .int i2)]) (by decide +kernel) rfl (Nat.le_of_ble_eq_true rfl) rfl ?_
  intro p e s m below meth c hx hb hml hr hlk hts0 hown hin hsz hW ls hl
  have hts : ∀ w ∈ hx_all, w.before _ s = true := fun w hw => hts0 w (List.mem_cons_of_mem _ hw)
  have hown : s.vm.findClass "SmallCourt" = some m.cls := hown
  have hM : hx_S T_tb [] L h L h := hx_S.rf
  refine lv_aload_n hx hb dX9_habit_0 rfl (lv_at hl 0 rfl) ?_
  refine lv_iload_n hx hb dX9_habit_1 rfl (lv_at hl 1 rfl) ?_
  refine hx_goq (hx_runV (As := [.int i1]) (rest := []) ⟨hx, hb, hml, hown, hts⟩ hW (gx.S hM) tt_9 (T := TX9) (N := 20) rfl (t_X9_personAt l dC dI dA L h s.heap.size x i1 hT (gx.S hM) qp (gqp.S hM) ((hM.o gx trivial rfl).2.trans f_x_7) pf_x_8) (cwV 1 hts (hx_gV kw_659 kw_656 kw_658 kw_20 kw_94) rfl rfl rfl (by decide +kernel) ⟨Nat.le_of_ble_eq_true rfl, Nat.le_of_ble_eq_true rfl⟩) rfl hl.1 rfl (Nat.le_of_ble_eq_true rfl) dX9_habit_2 ⟨Nat.le_of_ble_eq_true rfl, Nat.le_of_ble_eq_true rfl⟩) hW (fun r_3 L_1 h_2 H locs p_4 hW => ?_)
  obtain ⟨hr_5, hT, hs⟩ := p_4
  replace hT : hx_T T_tb L_1 h_2 := hT
  replace hs : hx_S T_tb [] L h L_1 h_2 := hs
  replace pf_x_8 : ∀ j : Nat, (j : Int) < (h_2.2.1 x 8).toInt → h_2.2.2 qp j ≠ none := by
    intro j hj; rw [(hs.o (gx.S hM) trivial rfl).1] at hj; rw [(hs.a (gqp.S hM) rfl j).2]; exact pf_x_8 j hj
  replace pf_x_13 : ∀ j : Nat, (j : Int) < (h_2.2.1 x 13).toInt → h_2.2.2 qh j ≠ none := by
    intro j hj; rw [(hs.o (gx.S hM) trivial rfl).1] at hj; rw [(hs.a (gqh.S hM) rfl j).2]; exact pf_x_13 j hj
  replace hM := hM.tr (hs.mono (by decide))
  have hr_5 : ∀ q, r_3 = some q → hx_g L_1 h_2 q 4 := hr_5
  rcases r_3 with _ | q_6
  · skip
    refine lv_astore_nN (lv' := [(3, .null), (0, .ref x), (1, .int i1), (2, .int i2)]) hx hb dX9_habit_5 rfl hl (by decide) rfl (fun ls hl => ?_)
    refine lv_aload_nN hx hb dX9_habit_6 rfl (lv_at hl 0 rfl) ?_
    refine lv_ifnullN (tgt := 17) hx hb dX9_habit_7 (by decide) ?_
    refine lv_iconst (v := -1) hx hb dX9_habit_17 (by decide) ?_
    exact hx_reti hx hb hr hlk hW ⟨trivial, hT, hM⟩ dX9_habit_18
  · have gq_6 := hr_5 _ rfl
    refine lv_astore_n (lv' := [(3, .ref q_6), (0, .ref x), (1, .int i1), (2, .int i2)]) hx hb dX9_habit_5 rfl hl (by decide) rfl (fun ls hl => ?_)
    refine lv_aload_n hx hb dX9_habit_6 rfl (lv_at hl 0 rfl) ?_
    refine lv_ifnull hx hb dX9_habit_7 ?_
    refine lv_aload_n hx hb dX9_habit_10 rfl (lv_at hl 0 rfl) ?_
    refine hx_geti hx hb hts hC_4 hown hW hT gq_6 tt_4 9 (by decide) rfl kw_626 ⟨rfl, rfl, rfl⟩ dX9_habit_11 (fun x_7 ex_7 lx_7 ux_7 => ?_)
    have fx_7 := ex_7.symm
    refine hb_if_ne (zx := x_7.toInt) (tgt := 19) hx hb rfl dX9_habit_14 (by decide) (fun c_8 => ?_) (fun c_8 => ?_)
    · skip
      refine lv_iconst (v := 0) hx hb dX9_habit_19 (by decide) ?_
      refine lv_istore (lv' := [(4, .int (0 : Int32)), (3, .ref q_6), (0, .ref x), (1, .int i1), (2, .int i2)]) hx hb dX9_habit_20 hl (by decide) rfl (fun ls hl => ?_)
      refine lv_iconst (v := 0) hx hb dX9_habit_22 (by decide) ?_
      refine lv_istore (lv' := [(5, .int (0 : Int32)), (4, .int (0 : Int32)), (3, .ref q_6), (0, .ref x), (1, .int i1), (2, .int i2)]) hx hb dX9_habit_23 hl (by decide) rfl (fun ls hl => ?_)
      refine lv_aload_n hx hb dX9_habit_25 rfl (lv_at hl 3 rfl) ?_
      refine hx_geti hx hb hts hC_9 hown hW hT (gx.S hM) tt_9 13 (by decide) rfl kw_377 ⟨rfl, rfl, rfl⟩ dX9_habit_26 (fun x_9 ex_9 lx_9 ux_9 => ?_)
      have fx_9 := ex_9.symm
      refine lv_iconst (v := 1) hx hb dX9_habit_29 (by decide) ?_
      refine lv_isub hx hb dX9_habit_30 ?_
      have rg_10 := i32_r x_9
      refine lv_topi (fun x_11 ex_11 => ?_)
      have zx_11 : x_11.toInt = x_9.toInt - 1 := by rw [ex_11]; exact i32_sub rfl (by decide) (by omega) (by omega)
      refine lv_istore (lv' := [(6, .int x_11), (5, .int (0 : Int32)), (4, .int (0 : Int32)), (3, .ref q_6), (0, .ref x), (1, .int i1), (2, .int i2)]) hx hb dX9_habit_31 hl (by decide) rfl (fun ls hl => ?_)
      have loop33 : ∀ (n33 : Nat) (iv33_4 iv33_5 iv33_6 : Int32) (H : Heap) (locs : List Loc) (hL1 : List Nat) (hl1 : hx_h), 0 ≤ iv33_4.toInt → iv33_4.toInt ≤ 60 → 0 ≤ iv33_5.toInt → iv33_5.toInt ≤ 60 → -1 ≤ iv33_6.toInt → iv33_6.toInt ≤ 99 → (iv33_6.toInt < x_9.toInt) → (iv33_5.toInt <= iv33_4.toInt) → ∀ (ls : Array Slot), iv33_6.toInt + 1 < (n33 : Int) → hx_W T_tb (P_ty dA) (dC, dI) vwCl (hx_A L sz) s.heap hL1 hl1 s H locs → hx_T T_tb hL1 hl1 → hx_S T_tb [] L h hL1 hl1 → hl1.2.1 q_6 9 = x_7 → hl1.2.1 x 13 = x_9 → hx_g hL1 hl1 q_6 4 → (∀ j : Nat, (j : Int) < (hl1.2.1 x 8).toInt → hl1.2.2 qp j ≠ none) → (∀ j : Nat, (j : Int) < (hl1.2.1 x 13).toInt → hl1.2.2 qh j ≠ none) → lv_has ls 7 [(6, .int iv33_6), (5, .int iv33_5), (4, .int iv33_4), (3, .ref q_6), (0, .ref x), (1, .int i1), (2, .int i2)] → W p l e ({ frames := 1, cells := 0, slots := 0, locals := 26 }) s m ([.ref x, .int i1, .int i2] : List Value).toArray below meth c H locs 0 0 (MQ below (va_Qi (fun (r : Int32) (u : List Nat × hx_h) => (True) ∧ hx_T T_tb u.1 u.2 ∧ hx_S T_tb [] L h u.1 u.2) (hx_E T_tb (P_ty dA) (dC, dI) vwCl (hx_A L sz)) (hx_A L sz)) ([.ref x, .int i1, .int i2] : List Value).toArray s 0 0 (hx_A L sz)) (F0 m 33 ls []) := by
        intro n33
        induction n33 with
        | zero => intro iv33_4 iv33_5 iv33_6 H locs hL1 hl1 bliv33_4 buiv33_4 bliv33_5 buiv33_5 bliv33_6 buiv33_6 vi33_0 vi33_1 ls hn33; exfalso; omega
        | succ n33 ih33 =>
          intro iv33_4 iv33_5 iv33_6 H locs hL1 hl1 bliv33_4 buiv33_4 bliv33_5 buiv33_5 bliv33_6 buiv33_6 vi33_0 vi33_1 ls hn33 hW hT hM fx_7 fx_9 gq_6 pf_x_8 pf_x_13 hl
          refine lv_iload hx hb dX9_habit_33 (lv_at hl 0 rfl) ?_
          refine hb_if_lt (zx := iv33_6.toInt) (tgt := 106) hx hb rfl dX9_habit_35 (by decide) (fun c_12 => ?_) (fun c_12 => ?_)
          · skip
            refine lv_iload_n hx hb dX9_habit_106 rfl (lv_at hl 6 rfl) ?_
            rcases (show (i2.toInt < 0 ∨ 2 < i2.toInt) ∨ i2.toInt = 0 ∨ i2.toInt = 1 ∨ i2.toInt = 2 from by omega) with c_13 | c_13 | c_13 | c_13
            · refine lv_tableOut (tgt := 171) hx hb dX9_habit_107 c_13 (by decide) ?_
              refine lv_iconst (v := -1) hx hb dX9_habit_171 (by decide) ?_
              exact hx_reti hx hb hr hlk hW ⟨trivial, hT, hM⟩ dX9_habit_172
            · refine lv_tableIn (off := 25) (tgt := 132) hx hb dX9_habit_107 (by omega) (by omega) (by rw [c_13]; rfl) (by decide) ?_
              refine lv_iload hx hb dX9_habit_132 (lv_at hl 2 rfl) ?_
              exact hx_reti hx hb hr hlk hW ⟨trivial, hT, hM⟩ dX9_habit_134
            · refine lv_tableIn (off := 28) (tgt := 135) hx hb dX9_habit_107 (by omega) (by omega) (by rw [c_13]; rfl) (by decide) ?_
              refine lv_iload hx hb dX9_habit_135 (lv_at hl 1 rfl) ?_
              exact hx_reti hx hb hr hlk hW ⟨trivial, hT, hM⟩ dX9_habit_137
            · refine lv_tableIn (off := 31) (tgt := 138) hx hb dX9_habit_107 (by omega) (by omega) (by rw [c_13]; rfl) (by decide) ?_
              refine lv_iload hx hb dX9_habit_138 (lv_at hl 2 rfl) ?_
              refine lv_iload hx hb dX9_habit_140 (lv_at hl 1 rfl) ?_
              refine hx_goi (hx_runS (As := [.int iv33_4, .int iv33_5]) (rest := []) ⟨hx, hb, hml, hown, hts⟩ hW (t_X9_isBeyondDoubt l dC dI dA hL1 hl1 H.size iv33_4 iv33_5 hT ⟨by omega, by omega⟩) (va_cwS 2 hts (hx_gS kw_1099 kw_1097 kw_1098 kw_94) rfl rfl rfl (by decide +kernel) ⟨Nat.le_of_ble_eq_true rfl, Nat.le_of_ble_eq_true rfl⟩) rfl hl.1 rfl (Nat.le_of_ble_eq_true rfl) dX9_habit_142 ⟨Nat.le_of_ble_eq_true rfl, Nat.le_of_ble_eq_true rfl⟩) hW (fun r_16 L_14 h_15 H locs p_17 hW => ?_)
              obtain ⟨hr_18, hT, hs⟩ := p_17
              replace hT : hx_T T_tb L_14 h_15 := hT
              replace hs : hx_S T_tb [] hL1 hl1 L_14 h_15 := hs
              replace fx_7 := (hs.o gq_6 trivial rfl).1.trans fx_7
              replace fx_9 := (hs.o (gx.S hM) trivial rfl).1.trans fx_9
              replace pf_x_8 : ∀ j : Nat, (j : Int) < (h_15.2.1 x 8).toInt → h_15.2.2 qp j ≠ none := by
                intro j hj; rw [(hs.o (gx.S hM) trivial rfl).1] at hj; rw [(hs.a (gqp.S hM) rfl j).2]; exact pf_x_8 j hj
              replace pf_x_13 : ∀ j : Nat, (j : Int) < (h_15.2.1 x 13).toInt → h_15.2.2 qh j ≠ none := by
                intro j hj; rw [(hs.o (gx.S hM) trivial rfl).1] at hj; rw [(hs.a (gqh.S hM) rfl j).2]; exact pf_x_13 j hj
              replace hM := hM.tr (hs.mono (by decide))
              replace gq_6 := gq_6.S hs
              refine hb_if_eq (zx := r_16.toInt) (tgt := 152) hx hb rfl dX9_habit_145 (by decide) (fun c_19 => ?_) (fun c_19 => ?_)
              · skip
                refine lv_iload hx hb dX9_habit_152 (lv_at hl 2 rfl) ?_
                refine lv_iload hx hb dX9_habit_154 (lv_at hl 2 rfl) ?_
                refine lv_iload hx hb dX9_habit_156 (lv_at hl 1 rfl) ?_
                refine lv_isub hx hb dX9_habit_158 ?_
                have rg_20 := i32_r iv33_4
                have rg_21 := i32_r iv33_5
                refine lv_topi (fun x_22 ex_22 => ?_)
                have zx_22 : x_22.toInt = iv33_4.toInt - iv33_5.toInt := by rw [ex_22]; exact i32_sub rfl rfl (by omega) (by omega)
                refine hx_goi (hx_runS (As := [.int iv33_4, .int x_22]) (rest := []) ⟨hx, hb, hml, hown, hts⟩ hW (t_X9_isBeyondDoubt l dC dI dA L_14 h_15 H.size iv33_4 x_22 hT ⟨by omega, by omega⟩) (va_cwS 2 hts (hx_gS kw_1099 kw_1097 kw_1098 kw_94) rfl rfl rfl (by decide +kernel) ⟨Nat.le_of_ble_eq_true rfl, Nat.le_of_ble_eq_true rfl⟩) rfl hl.1 rfl (Nat.le_of_ble_eq_true rfl) dX9_habit_159 ⟨Nat.le_of_ble_eq_true rfl, Nat.le_of_ble_eq_true rfl⟩) hW (fun r_25 L_23 h_24 H locs p_26 hW => ?_)
                obtain ⟨hr_27, hT, hs⟩ := p_26
                replace hT : hx_T T_tb L_23 h_24 := hT
                replace hs : hx_S T_tb [] L_14 h_15 L_23 h_24 := hs
                replace fx_7 := (hs.o gq_6 trivial rfl).1.trans fx_7
                replace fx_9 := (hs.o (gx.S hM) trivial rfl).1.trans fx_9
                replace pf_x_8 : ∀ j : Nat, (j : Int) < (h_24.2.1 x 8).toInt → h_24.2.2 qp j ≠ none := by
                  intro j hj; rw [(hs.o (gx.S hM) trivial rfl).1] at hj; rw [(hs.a (gqp.S hM) rfl j).2]; exact pf_x_8 j hj
                replace pf_x_13 : ∀ j : Nat, (j : Int) < (h_24.2.1 x 13).toInt → h_24.2.2 qh j ≠ none := by
                  intro j hj; rw [(hs.o (gx.S hM) trivial rfl).1] at hj; rw [(hs.a (gqh.S hM) rfl j).2]; exact pf_x_13 j hj
                replace hM := hM.tr (hs.mono (by decide))
                replace gq_6 := gq_6.S hs
                have jn_170 : ∀ (xj_28 : Int32) (ls : Array Slot), 0 ≤ xj_28.toInt → xj_28.toInt ≤ 2 → lv_has ls 7 [(6, .int iv33_6), (5, .int iv33_5), (4, .int iv33_4), (3, .ref q_6), (0, .ref x), (1, .int i1), (2, .int i2)] → W p l e ({ frames := 1, cells := 0, slots := 0, locals := 26 }) s m ([.ref x, .int i1, .int i2] : List Value).toArray below meth c H locs 0 0 (MQ below (va_Qi (fun (r : Int32) (u : List Nat × hx_h) => (True) ∧ hx_T T_tb u.1 u.2 ∧ hx_S T_tb [] L h u.1 u.2) (hx_E T_tb (P_ty dA) (dC, dI) vwCl (hx_A L sz)) (hx_A L sz)) ([.ref x, .int i1, .int i2] : List Value).toArray s 0 0 (hx_A L sz)) (F0 m 170 ls [.int xj_28]) := by
                  intro xj_28 ls blxj_28 buxj_28 hl
                  exact hx_reti hx hb hr hlk hW ⟨trivial, hT, hM⟩ dX9_habit_170
                refine hb_if_eq (zx := r_25.toInt) (tgt := 169) hx hb rfl dX9_habit_162 (by decide) (fun c_29 => ?_) (fun c_29 => ?_)
                · skip
                  refine lv_iconst (v := 0) hx hb dX9_habit_169 (by decide) ?_
                  exact jn_170 (0 : Int32) ls (by decide) (by decide) hl
                · skip
                  refine lv_iconst (v := 2) hx hb dX9_habit_165 (by decide) ?_
                  refine lv_goto (tgt := 170) hx hb dX9_habit_166 (by decide) ?_
                  exact jn_170 (2 : Int32) ls (by decide) (by decide) hl
              · skip
                refine lv_iconst (v := 1) hx hb dX9_habit_148 (by decide) ?_
                refine lv_goto (tgt := 170) hx hb dX9_habit_149 (by decide) ?_
                exact hx_reti hx hb hr hlk hW ⟨trivial, hT, hM⟩ dX9_habit_170
          · skip
            refine lv_iload hx hb dX9_habit_38 (lv_at hl 2 rfl) ?_
            refine lv_bipush (v := 60) hx hb dX9_habit_40 (by decide) ?_
            refine hb_icmp_ge (zx := iv33_4.toInt) (zy := 60) (tgt := 106) hx hb rfl (by decide) dX9_habit_42 (by decide) (fun c_30 => ?_) (fun c_30 => ?_)
            · skip
              refine lv_iload_n hx hb dX9_habit_106 rfl (lv_at hl 6 rfl) ?_
              rcases (show (i2.toInt < 0 ∨ 2 < i2.toInt) ∨ i2.toInt = 0 ∨ i2.toInt = 1 ∨ i2.toInt = 2 from by omega) with c_31 | c_31 | c_31 | c_31
              · refine lv_tableOut (tgt := 171) hx hb dX9_habit_107 c_31 (by decide) ?_
                refine lv_iconst (v := -1) hx hb dX9_habit_171 (by decide) ?_
                exact hx_reti hx hb hr hlk hW ⟨trivial, hT, hM⟩ dX9_habit_172
              · refine lv_tableIn (off := 25) (tgt := 132) hx hb dX9_habit_107 (by omega) (by omega) (by rw [c_31]; rfl) (by decide) ?_
                refine lv_iload hx hb dX9_habit_132 (lv_at hl 2 rfl) ?_
                exact hx_reti hx hb hr hlk hW ⟨trivial, hT, hM⟩ dX9_habit_134
              · refine lv_tableIn (off := 28) (tgt := 135) hx hb dX9_habit_107 (by omega) (by omega) (by rw [c_31]; rfl) (by decide) ?_
                refine lv_iload hx hb dX9_habit_135 (lv_at hl 1 rfl) ?_
                exact hx_reti hx hb hr hlk hW ⟨trivial, hT, hM⟩ dX9_habit_137
              · refine lv_tableIn (off := 31) (tgt := 138) hx hb dX9_habit_107 (by omega) (by omega) (by rw [c_31]; rfl) (by decide) ?_
                refine lv_iload hx hb dX9_habit_138 (lv_at hl 2 rfl) ?_
                refine lv_iload hx hb dX9_habit_140 (lv_at hl 1 rfl) ?_
                refine hx_goi (hx_runS (As := [.int iv33_4, .int iv33_5]) (rest := []) ⟨hx, hb, hml, hown, hts⟩ hW (t_X9_isBeyondDoubt l dC dI dA hL1 hl1 H.size iv33_4 iv33_5 hT ⟨by omega, by omega⟩) (va_cwS 2 hts (hx_gS kw_1099 kw_1097 kw_1098 kw_94) rfl rfl rfl (by decide +kernel) ⟨Nat.le_of_ble_eq_true rfl, Nat.le_of_ble_eq_true rfl⟩) rfl hl.1 rfl (Nat.le_of_ble_eq_true rfl) dX9_habit_142 ⟨Nat.le_of_ble_eq_true rfl, Nat.le_of_ble_eq_true rfl⟩) hW (fun r_34 L_32 h_33 H locs p_35 hW => ?_)
                obtain ⟨hr_36, hT, hs⟩ := p_35
                replace hT : hx_T T_tb L_32 h_33 := hT
                replace hs : hx_S T_tb [] hL1 hl1 L_32 h_33 := hs
                replace fx_7 := (hs.o gq_6 trivial rfl).1.trans fx_7
                replace fx_9 := (hs.o (gx.S hM) trivial rfl).1.trans fx_9
                replace pf_x_8 : ∀ j : Nat, (j : Int) < (h_33.2.1 x 8).toInt → h_33.2.2 qp j ≠ none := by
                  intro j hj; rw [(hs.o (gx.S hM) trivial rfl).1] at hj; rw [(hs.a (gqp.S hM) rfl j).2]; exact pf_x_8 j hj
                replace pf_x_13 : ∀ j : Nat, (j : Int) < (h_33.2.1 x 13).toInt → h_33.2.2 qh j ≠ none := by
                  intro j hj; rw [(hs.o (gx.S hM) trivial rfl).1] at hj; rw [(hs.a (gqh.S hM) rfl j).2]; exact pf_x_13 j hj
                replace hM := hM.tr (hs.mono (by decide))
                replace gq_6 := gq_6.S hs
                refine hb_if_eq (zx := r_34.toInt) (tgt := 152) hx hb rfl dX9_habit_145 (by decide) (fun c_37 => ?_) (fun c_37 => ?_)
                · skip
                  refine lv_iload hx hb dX9_habit_152 (lv_at hl 2 rfl) ?_
                  refine lv_iload hx hb dX9_habit_154 (lv_at hl 2 rfl) ?_
                  refine lv_iload hx hb dX9_habit_156 (lv_at hl 1 rfl) ?_
                  refine lv_isub hx hb dX9_habit_158 ?_
                  have rg_38 := i32_r iv33_4
                  have rg_39 := i32_r iv33_5
                  refine lv_topi (fun x_40 ex_40 => ?_)
                  have zx_40 : x_40.toInt = iv33_4.toInt - iv33_5.toInt := by rw [ex_40]; exact i32_sub rfl rfl (by omega) (by omega)
                  refine hx_goi (hx_runS (As := [.int iv33_4, .int x_40]) (rest := []) ⟨hx, hb, hml, hown, hts⟩ hW (t_X9_isBeyondDoubt l dC dI dA L_32 h_33 H.size iv33_4 x_40 hT ⟨by omega, by omega⟩) (va_cwS 2 hts (hx_gS kw_1099 kw_1097 kw_1098 kw_94) rfl rfl rfl (by decide +kernel) ⟨Nat.le_of_ble_eq_true rfl, Nat.le_of_ble_eq_true rfl⟩) rfl hl.1 rfl (Nat.le_of_ble_eq_true rfl) dX9_habit_159 ⟨Nat.le_of_ble_eq_true rfl, Nat.le_of_ble_eq_true rfl⟩) hW (fun r_43 L_41 h_42 H locs p_44 hW => ?_)
                  obtain ⟨hr_45, hT, hs⟩ := p_44
                  replace hT : hx_T T_tb L_41 h_42 := hT
                  replace hs : hx_S T_tb [] L_32 h_33 L_41 h_42 := hs
                  replace fx_7 := (hs.o gq_6 trivial rfl).1.trans fx_7
                  replace fx_9 := (hs.o (gx.S hM) trivial rfl).1.trans fx_9
                  replace pf_x_8 : ∀ j : Nat, (j : Int) < (h_42.2.1 x 8).toInt → h_42.2.2 qp j ≠ none := by
                    intro j hj; rw [(hs.o (gx.S hM) trivial rfl).1] at hj; rw [(hs.a (gqp.S hM) rfl j).2]; exact pf_x_8 j hj
                  replace pf_x_13 : ∀ j : Nat, (j : Int) < (h_42.2.1 x 13).toInt → h_42.2.2 qh j ≠ none := by
                    intro j hj; rw [(hs.o (gx.S hM) trivial rfl).1] at hj; rw [(hs.a (gqh.S hM) rfl j).2]; exact pf_x_13 j hj
                  replace hM := hM.tr (hs.mono (by decide))
                  replace gq_6 := gq_6.S hs
                  have jn_170 : ∀ (xj_46 : Int32) (ls : Array Slot), 0 ≤ xj_46.toInt → xj_46.toInt ≤ 2 → lv_has ls 7 [(6, .int iv33_6), (5, .int iv33_5), (4, .int iv33_4), (3, .ref q_6), (0, .ref x), (1, .int i1), (2, .int i2)] → W p l e ({ frames := 1, cells := 0, slots := 0, locals := 26 }) s m ([.ref x, .int i1, .int i2] : List Value).toArray below meth c H locs 0 0 (MQ below (va_Qi (fun (r : Int32) (u : List Nat × hx_h) => (True) ∧ hx_T T_tb u.1 u.2 ∧ hx_S T_tb [] L h u.1 u.2) (hx_E T_tb (P_ty dA) (dC, dI) vwCl (hx_A L sz)) (hx_A L sz)) ([.ref x, .int i1, .int i2] : List Value).toArray s 0 0 (hx_A L sz)) (F0 m 170 ls [.int xj_46]) := by
                    intro xj_46 ls blxj_46 buxj_46 hl
                    exact hx_reti hx hb hr hlk hW ⟨trivial, hT, hM⟩ dX9_habit_170
                  refine hb_if_eq (zx := r_43.toInt) (tgt := 169) hx hb rfl dX9_habit_162 (by decide) (fun c_47 => ?_) (fun c_47 => ?_)
                  · skip
                    refine lv_iconst (v := 0) hx hb dX9_habit_169 (by decide) ?_
                    exact jn_170 (0 : Int32) ls (by decide) (by decide) hl
                  · skip
                    refine lv_iconst (v := 2) hx hb dX9_habit_165 (by decide) ?_
                    refine lv_goto (tgt := 170) hx hb dX9_habit_166 (by decide) ?_
                    exact jn_170 (2 : Int32) ls (by decide) (by decide) hl
                · skip
                  refine lv_iconst (v := 1) hx hb dX9_habit_148 (by decide) ?_
                  refine lv_goto (tgt := 170) hx hb dX9_habit_149 (by decide) ?_
                  exact hx_reti hx hb hr hlk hW ⟨trivial, hT, hM⟩ dX9_habit_170
            · skip
              refine lv_aload_n hx hb dX9_habit_45 rfl (lv_at hl 4 rfl) ?_
              refine hk_getr hx hb hts hC_9 hown hW (gx.S hM) tt_9 12 (by decide) rfl kw_376 ⟨rfl, rfl, rfl⟩ ((hM.o gx trivial rfl).2.trans f_x_12) dX9_habit_46 ?_
              refine lv_iload hx hb dX9_habit_49 (lv_at hl 0 rfl) ?_
              refine hx_aaldN hx hb hW hT (gqh.S hM) tt_46 (t1 := 2) rfl ⟨by omega, by omega⟩ (pf_x_13 _ (by rw [fx_9]; exact hx_tnI (by omega) (by omega))) dX9_habit_51 (fun q_48 fq_48 gq_48 => ?_)
              refine hx_geti hx hb hts hC_2 hown hW hT gq_48 tt_2 12 (by decide) rfl kw_751 ⟨rfl, rfl, rfl⟩ dX9_habit_52 (fun x_49 ex_49 lx_49 ux_49 => ?_)
              have fx_49 := ex_49.symm
              refine lv_iconst (v := 4) hx hb dX9_habit_55 (by decide) ?_
              refine hb_icmp_lt (zx := x_49.toInt) (zy := 4) (tgt := 100) hx hb rfl (by decide) dX9_habit_56 (by decide) (fun c_50 => ?_) (fun c_50 => ?_)
              · skip
                obtain ⟨x_51, ex_51⟩ : ∃ y : Int32, y = iv33_6 + Int32.ofInt (-1) := ⟨_, rfl⟩
                have rg_52 := i32_r iv33_6
                have zx_51 : x_51.toInt = iv33_6.toInt + (-1) := by rw [ex_51]; exact i32_add rfl (by decide) (by omega) (by omega)
                refine lv_iinc (v := x_51) (lv' := [(6, .int x_51), (5, .int iv33_5), (4, .int iv33_4), (3, .ref q_6), (0, .ref x), (1, .int i1), (2, .int i2)]) hx hb dX9_habit_100 hl (k := 0) rfl ex_51.symm (by decide) rfl (fun ls hl => ?_)
                refine lv_goto (tgt := 33) hx hb dX9_habit_103 (by decide) ?_
                exact ih33 iv33_4 iv33_5 x_51 _ _ hL1 hl1 (by omega) (by omega) (by omega) (by omega) (by omega) (by omega) (by omega) (by omega) ls (by omega) hW hT hM fx_7 fx_9 gq_6 pf_x_8 pf_x_13 (lv_sub hl [0, 1, 2, 3, 4, 5, 6] rfl)
              · skip
                refine lv_aload_n hx hb dX9_habit_59 rfl (lv_at hl 4 rfl) ?_
                refine hk_getr hx hb hts hC_9 hown hW (gx.S hM) tt_9 12 (by decide) rfl kw_376 ⟨rfl, rfl, rfl⟩ ((hM.o gx trivial rfl).2.trans f_x_12) dX9_habit_60 ?_
                refine lv_iload hx hb dX9_habit_63 (lv_at hl 0 rfl) ?_
                refine hx_aaldN hx hb hW hT (gqh.S hM) tt_46 (t1 := 2) rfl ⟨by omega, by omega⟩ (pf_x_13 _ (by rw [fx_9]; exact hx_tnI (by omega) (by omega))) dX9_habit_65 (fun q_53 fq_53 gq_53 => ?_)
                refine lv_iload_n hx hb dX9_habit_66 rfl (lv_at hl 5 rfl) ?_
                refine hx_goi (hx_runV (As := [.int i1]) (rest := []) ⟨hx, hb, hml, hown, hts⟩ hW gq_53 tt_2 (T := TX2) (N := 19) rfl (t_X2_isOnBench l dC dI dA hL1 hl1 H.size q_53 i1 hT gq_53) (cwV 1 hts (hx_gV kw_1096 kw_1093 kw_1094 kw_1095 kw_110) rfl rfl rfl (by decide +kernel) ⟨Nat.le_of_ble_eq_true rfl, Nat.le_of_ble_eq_true rfl⟩) rfl hl.1 rfl (Nat.le_of_ble_eq_true rfl) dX9_habit_67 ⟨Nat.le_of_ble_eq_true rfl, Nat.le_of_ble_eq_true rfl⟩) hW (fun r_56 L_54 h_55 H locs p_57 hW => ?_)
                obtain ⟨hr_58, hT, hs⟩ := p_57
                replace hT : hx_T T_tb L_54 h_55 := hT
                replace hs : hx_S T_tb [] hL1 hl1 L_54 h_55 := hs
                replace fx_7 := (hs.o gq_6 trivial rfl).1.trans fx_7
                replace fx_9 := (hs.o (gx.S hM) trivial rfl).1.trans fx_9
                replace fx_49 := (hs.o gq_48 trivial rfl).1.trans fx_49
                replace pf_x_8 : ∀ j : Nat, (j : Int) < (h_55.2.1 x 8).toInt → h_55.2.2 qp j ≠ none := by
                  intro j hj; rw [(hs.o (gx.S hM) trivial rfl).1] at hj; rw [(hs.a (gqp.S hM) rfl j).2]; exact pf_x_8 j hj
                replace pf_x_13 : ∀ j : Nat, (j : Int) < (h_55.2.1 x 13).toInt → h_55.2.2 qh j ≠ none := by
                  intro j hj; rw [(hs.o (gx.S hM) trivial rfl).1] at hj; rw [(hs.a (gqh.S hM) rfl j).2]; exact pf_x_13 j hj
                replace hM := hM.tr (hs.mono (by decide))
                replace gq_6 := gq_6.S hs
                replace gq_48 := gq_48.S hs
                replace gq_53 := gq_53.S hs
                refine hb_if_eq (zx := r_56.toInt) (tgt := 100) hx hb rfl dX9_habit_70 (by decide) (fun c_59 => ?_) (fun c_59 => ?_)
                · skip
                  obtain ⟨x_60, ex_60⟩ : ∃ y : Int32, y = iv33_6 + Int32.ofInt (-1) := ⟨_, rfl⟩
                  have rg_61 := i32_r iv33_6
                  have zx_60 : x_60.toInt = iv33_6.toInt + (-1) := by rw [ex_60]; exact i32_add rfl (by decide) (by omega) (by omega)
                  refine lv_iinc (v := x_60) (lv' := [(6, .int x_60), (5, .int iv33_5), (4, .int iv33_4), (3, .ref q_6), (0, .ref x), (1, .int i1), (2, .int i2)]) hx hb dX9_habit_100 hl (k := 0) rfl ex_60.symm (by decide) rfl (fun ls hl => ?_)
                  refine lv_goto (tgt := 33) hx hb dX9_habit_103 (by decide) ?_
                  exact ih33 iv33_4 iv33_5 x_60 _ _ L_54 h_55 (by omega) (by omega) (by omega) (by omega) (by omega) (by omega) (by omega) (by omega) ls (by omega) hW hT hM fx_7 fx_9 gq_6 pf_x_8 pf_x_13 (lv_sub hl [0, 1, 2, 3, 4, 5, 6] rfl)
                · skip
                  obtain ⟨x_62, ex_62⟩ : ∃ y : Int32, y = iv33_4 + Int32.ofInt 1 := ⟨_, rfl⟩
                  have rg_63 := i32_r iv33_4
                  have zx_62 : x_62.toInt = iv33_4.toInt + (1) := by rw [ex_62]; exact i32_add rfl (by decide) (by omega) (by omega)
                  refine lv_iinc (v := x_62) (lv' := [(4, .int x_62), (6, .int iv33_6), (5, .int iv33_5), (3, .ref q_6), (0, .ref x), (1, .int i1), (2, .int i2)]) hx hb dX9_habit_73 hl (k := 2) rfl ex_62.symm (by decide) rfl (fun ls hl => ?_)
                  refine lv_iload hx hb dX9_habit_76 (lv_at hl 2 rfl) ?_
                  refine lv_aload_n hx hb dX9_habit_78 rfl (lv_at hl 4 rfl) ?_
                  refine hk_getr hx hb hts hC_9 hown hW (gx.S hM) tt_9 12 (by decide) rfl kw_376 ⟨rfl, rfl, rfl⟩ ((hM.o gx trivial rfl).2.trans f_x_12) dX9_habit_79 ?_
                  refine lv_iload hx hb dX9_habit_82 (lv_at hl 1 rfl) ?_
                  refine hx_aaldN hx hb hW hT (gqh.S hM) tt_46 (t1 := 2) rfl ⟨by omega, by omega⟩ (pf_x_13 _ (by rw [fx_9]; exact hx_tnI (by omega) (by omega))) dX9_habit_84 (fun q_64 fq_64 gq_64 => ?_)
                  refine hx_geti hx hb hts hC_2 hown hW hT gq_64 tt_2 12 (by decide) rfl kw_751 ⟨rfl, rfl, rfl⟩ dX9_habit_85 (fun x_65 ex_65 lx_65 ux_65 => ?_)
                  have fx_65 := ex_65.symm
                  refine lv_iconst (v := 5) hx hb dX9_habit_88 (by decide) ?_
                  have jn_97 : ∀ (xj_66 : Int32) (ls : Array Slot), 0 ≤ xj_66.toInt → xj_66.toInt ≤ 1 → lv_has ls 7 [(4, .int x_62), (6, .int iv33_6), (5, .int iv33_5), (3, .ref q_6), (0, .ref x), (1, .int i1), (2, .int i2)] → W p l e ({ frames := 1, cells := 0, slots := 0, locals := 26 }) s m ([.ref x, .int i1, .int i2] : List Value).toArray below meth c H locs 0 0 (MQ below (va_Qi (fun (r : Int32) (u : List Nat × hx_h) => (True) ∧ hx_T T_tb u.1 u.2 ∧ hx_S T_tb [] L h u.1 u.2) (hx_E T_tb (P_ty dA) (dC, dI) vwCl (hx_A L sz)) (hx_A L sz)) ([.ref x, .int i1, .int i2] : List Value).toArray s 0 0 (hx_A L sz)) (F0 m 97 ls [.int xj_66, .int iv33_5]) := by
                    intro xj_66 ls blxj_66 buxj_66 hl
                    refine lv_iadd hx hb dX9_habit_97 ?_
                    have rg_67 := i32_r iv33_5
                    have rg_68 := i32_r xj_66
                    refine lv_topi (fun x_69 ex_69 => ?_)
                    have zx_69 : x_69.toInt = iv33_5.toInt + xj_66.toInt := by rw [ex_69]; exact i32_add rfl rfl (by omega) (by omega)
                    refine lv_istore (lv' := [(5, .int x_69), (4, .int x_62), (6, .int iv33_6), (3, .ref q_6), (0, .ref x), (1, .int i1), (2, .int i2)]) hx hb dX9_habit_98 hl (by decide) rfl (fun ls hl => ?_)
                    obtain ⟨x_70, ex_70⟩ : ∃ y : Int32, y = iv33_6 + Int32.ofInt (-1) := ⟨_, rfl⟩
                    have rg_71 := i32_r iv33_6
                    have zx_70 : x_70.toInt = iv33_6.toInt + (-1) := by rw [ex_70]; exact i32_add rfl (by decide) (by omega) (by omega)
                    refine lv_iinc (v := x_70) (lv' := [(6, .int x_70), (5, .int x_69), (4, .int x_62), (3, .ref q_6), (0, .ref x), (1, .int i1), (2, .int i2)]) hx hb dX9_habit_100 hl (k := 2) rfl ex_70.symm (by decide) rfl (fun ls hl => ?_)
                    refine lv_goto (tgt := 33) hx hb dX9_habit_103 (by decide) ?_
                    exact ih33 x_62 x_69 x_70 _ _ L_54 h_55 (by omega) (by omega) (by omega) (by omega) (by omega) (by omega) (by omega) (by omega) ls (by omega) hW hT hM fx_7 fx_9 gq_6 pf_x_8 pf_x_13 (lv_sub hl [0, 1, 2, 3, 4, 5, 6] rfl)
                  refine hb_icmp_ne (zx := x_65.toInt) (zy := 5) (tgt := 96) hx hb rfl (by decide) dX9_habit_89 (by decide) (fun c_72 => ?_) (fun c_72 => ?_)
                  · skip
                    refine lv_iconst (v := 0) hx hb dX9_habit_96 (by decide) ?_
                    exact jn_97 (0 : Int32) ls (by decide) (by decide) hl
                  · skip
                    refine lv_iconst (v := 1) hx hb dX9_habit_92 (by decide) ?_
                    refine lv_goto (tgt := 97) hx hb dX9_habit_93 (by decide) ?_
                    exact jn_97 (1 : Int32) ls (by decide) (by decide) hl
      have zk_0 : (0 : Int32).toInt = 0 := by decide
      have zk_0 : (0 : Int32).toInt = 0 := by decide
      exact loop33 101 (0 : Int32) (0 : Int32) x_11 _ _ L_1 h_2 (by decide) (by decide) (by decide) (by decide) (by omega) (by omega) (by omega) (by omega) ls (by omega) hW hT hM fx_7 fx_9 gq_6 pf_x_8 pf_x_13 hl
    · skip
      refine lv_iconst (v := -1) hx hb dX9_habit_17 (by decide) ?_
      exact hx_reti hx hb hr hlk hW ⟨trivial, hT, hM⟩ dX9_habit_18

def wLX9_other_0 : List Nat := [27, 2, 161, 0, 22, 27, 42, 180, 0, 105, 162, 0, 14, 28, 4, 161, 0, 9, 28, 16, 6, 164, 0, 5, 2, 172, 27, 2, 160, 0, 10, 42, 180, 0, 25, 167, 0, 9, 42, 180, 0, 29, 27, 50, 78, 3, 54, 4, 3, 54, 5, 3, 54, 6, 21, 6, 42, 180, 0, 216, 162, 0, 66, 42]
def wLX9_other_1 : List Nat := [42, 180, 0, 52, 21, 6, 50, 45, 182, 0, 229, 54, 7, 21, 4, 21, 7, 28, 160, 0, 7, 4, 167, 0, 4, 3, 96, 54, 4, 21, 5, 42, 180, 0, 52, 21, 6, 50, 45, 21, 7, 8, 160, 0, 7, 4, 167, 0, 4, 3, 182, 1, 0, 96, 54, 5, 132, 6, 1, 167, 255, 187, 28, 8]
def wLX9_other_2 : List Nat := [164, 0, 8, 21, 5, 167, 0, 5, 21, 4, 172]
theorem wX9_other_0 : (cX9_other.data.toList.map UInt8.toNat).drop 0 = wLX9_other_0 ++ (wLX9_other_1 ++ (wLX9_other_2 ++ ([]))) := by decide +kernel
theorem wX9_other_1 : (cX9_other.data.toList.map UInt8.toNat).drop 64 = wLX9_other_1 ++ (wLX9_other_2 ++ ([])) := hz_wn wX9_other_0 rfl
theorem wX9_other_2 : (cX9_other.data.toList.map UInt8.toNat).drop 128 = wLX9_other_2 ++ ([]) := hz_wn wX9_other_1 rfl
theorem dX9_other_0 : decode cX9_other 0 = .ok (.iload_n 1, 1) := dq_27 (hz_wg wX9_other_0 (j := 0) (n := 27) rfl)
theorem dX9_other_1 : decode cX9_other 1 = .ok (.iconst (-1), 1) := dq_2 (hz_wg wX9_other_0 (j := 1) (n := 2) rfl)
theorem dX9_other_2 : decode cX9_other 2 = .ok (.if_icmp .lt 22, 3) := dq_161 (hz_wg wX9_other_0 (j := 2) (n := 161) rfl) (hz_wg wX9_other_0 (j := 3) (n := 0) rfl) (hz_wg wX9_other_0 (j := 4) (n := 22) rfl) (by decide)
theorem dX9_other_5 : decode cX9_other 5 = .ok (.iload_n 1, 1) := dq_27 (hz_wg wX9_other_0 (j := 5) (n := 27) rfl)
theorem dX9_other_6 : decode cX9_other 6 = .ok (.aload_n 0, 1) := dq_42 (hz_wg wX9_other_0 (j := 6) (n := 42) rfl)
theorem dX9_other_7 : decode cX9_other 7 = .ok (.getfield 105, 3) := dq_180 (hz_wg wX9_other_0 (j := 7) (n := 180) rfl) (hz_wg wX9_other_0 (j := 8) (n := 0) rfl) (hz_wg wX9_other_0 (j := 9) (n := 105) rfl) rfl
theorem dX9_other_10 : decode cX9_other 10 = .ok (.if_icmp .ge 14, 3) := dq_162 (hz_wg wX9_other_0 (j := 10) (n := 162) rfl) (hz_wg wX9_other_0 (j := 11) (n := 0) rfl) (hz_wg wX9_other_0 (j := 12) (n := 14) rfl) (by decide)
theorem dX9_other_13 : decode cX9_other 13 = .ok (.iload_n 2, 1) := dq_28 (hz_wg wX9_other_0 (j := 13) (n := 28) rfl)
theorem dX9_other_14 : decode cX9_other 14 = .ok (.iconst 1, 1) := dq_4 (hz_wg wX9_other_0 (j := 14) (n := 4) rfl)
theorem dX9_other_15 : decode cX9_other 15 = .ok (.if_icmp .lt 9, 3) := dq_161 (hz_wg wX9_other_0 (j := 15) (n := 161) rfl) (hz_wg wX9_other_0 (j := 16) (n := 0) rfl) (hz_wg wX9_other_0 (j := 17) (n := 9) rfl) (by decide)
theorem dX9_other_18 : decode cX9_other 18 = .ok (.iload_n 2, 1) := dq_28 (hz_wg wX9_other_0 (j := 18) (n := 28) rfl)
theorem dX9_other_19 : decode cX9_other 19 = .ok (.bipush 6, 2) := dq_16 (hz_wg wX9_other_0 (j := 19) (n := 16) rfl) (hz_wg wX9_other_0 (j := 20) (n := 6) rfl) (by decide)
theorem dX9_other_21 : decode cX9_other 21 = .ok (.if_icmp .le 5, 3) := dq_164 (hz_wg wX9_other_0 (j := 21) (n := 164) rfl) (hz_wg wX9_other_0 (j := 22) (n := 0) rfl) (hz_wg wX9_other_0 (j := 23) (n := 5) rfl) (by decide)
theorem dX9_other_24 : decode cX9_other 24 = .ok (.iconst (-1), 1) := dq_2 (hz_wg wX9_other_0 (j := 24) (n := 2) rfl)
theorem dX9_other_25 : decode cX9_other 25 = .ok (.ireturn, 1) := dq_172 (hz_wg wX9_other_0 (j := 25) (n := 172) rfl)
theorem dX9_other_26 : decode cX9_other 26 = .ok (.iload_n 1, 1) := dq_27 (hz_wg wX9_other_0 (j := 26) (n := 27) rfl)
theorem dX9_other_27 : decode cX9_other 27 = .ok (.iconst (-1), 1) := dq_2 (hz_wg wX9_other_0 (j := 27) (n := 2) rfl)
theorem dX9_other_28 : decode cX9_other 28 = .ok (.if_icmp .ne 10, 3) := dq_160 (hz_wg wX9_other_0 (j := 28) (n := 160) rfl) (hz_wg wX9_other_0 (j := 29) (n := 0) rfl) (hz_wg wX9_other_0 (j := 30) (n := 10) rfl) (by decide)
theorem dX9_other_31 : decode cX9_other 31 = .ok (.aload_n 0, 1) := dq_42 (hz_wg wX9_other_0 (j := 31) (n := 42) rfl)
theorem dX9_other_32 : decode cX9_other 32 = .ok (.getfield 25, 3) := dq_180 (hz_wg wX9_other_0 (j := 32) (n := 180) rfl) (hz_wg wX9_other_0 (j := 33) (n := 0) rfl) (hz_wg wX9_other_0 (j := 34) (n := 25) rfl) rfl
theorem dX9_other_35 : decode cX9_other 35 = .ok (.goto 9, 3) := dq_167 (hz_wg wX9_other_0 (j := 35) (n := 167) rfl) (hz_wg wX9_other_0 (j := 36) (n := 0) rfl) (hz_wg wX9_other_0 (j := 37) (n := 9) rfl) (by decide)
theorem dX9_other_38 : decode cX9_other 38 = .ok (.aload_n 0, 1) := dq_42 (hz_wg wX9_other_0 (j := 38) (n := 42) rfl)
theorem dX9_other_39 : decode cX9_other 39 = .ok (.getfield 29, 3) := dq_180 (hz_wg wX9_other_0 (j := 39) (n := 180) rfl) (hz_wg wX9_other_0 (j := 40) (n := 0) rfl) (hz_wg wX9_other_0 (j := 41) (n := 29) rfl) rfl
theorem dX9_other_42 : decode cX9_other 42 = .ok (.iload_n 1, 1) := dq_27 (hz_wg wX9_other_0 (j := 42) (n := 27) rfl)
theorem dX9_other_43 : decode cX9_other 43 = .ok (.aaload, 1) := dq_50 (hz_wg wX9_other_0 (j := 43) (n := 50) rfl)
theorem dX9_other_44 : decode cX9_other 44 = .ok (.astore_n 3, 1) := dq_78 (hz_wg wX9_other_0 (j := 44) (n := 78) rfl)
theorem dX9_other_45 : decode cX9_other 45 = .ok (.iconst 0, 1) := dq_3 (hz_wg wX9_other_0 (j := 45) (n := 3) rfl)
theorem dX9_other_46 : decode cX9_other 46 = .ok (.istore 4, 2) := dq_54 (hz_wg wX9_other_0 (j := 46) (n := 54) rfl) (hz_wg wX9_other_0 (j := 47) (n := 4) rfl)
theorem dX9_other_48 : decode cX9_other 48 = .ok (.iconst 0, 1) := dq_3 (hz_wg wX9_other_0 (j := 48) (n := 3) rfl)
theorem dX9_other_49 : decode cX9_other 49 = .ok (.istore 5, 2) := dq_54 (hz_wg wX9_other_0 (j := 49) (n := 54) rfl) (hz_wg wX9_other_0 (j := 50) (n := 5) rfl)
theorem dX9_other_51 : decode cX9_other 51 = .ok (.iconst 0, 1) := dq_3 (hz_wg wX9_other_0 (j := 51) (n := 3) rfl)
theorem dX9_other_52 : decode cX9_other 52 = .ok (.istore 6, 2) := dq_54 (hz_wg wX9_other_0 (j := 52) (n := 54) rfl) (hz_wg wX9_other_0 (j := 53) (n := 6) rfl)
theorem dX9_other_54 : decode cX9_other 54 = .ok (.iload 6, 2) := dq_21 (hz_wg wX9_other_0 (j := 54) (n := 21) rfl) (hz_wg wX9_other_0 (j := 55) (n := 6) rfl)
theorem dX9_other_56 : decode cX9_other 56 = .ok (.aload_n 0, 1) := dq_42 (hz_wg wX9_other_0 (j := 56) (n := 42) rfl)
theorem dX9_other_57 : decode cX9_other 57 = .ok (.getfield 216, 3) := dq_180 (hz_wg wX9_other_0 (j := 57) (n := 180) rfl) (hz_wg wX9_other_0 (j := 58) (n := 0) rfl) (hz_wg wX9_other_0 (j := 59) (n := 216) rfl) rfl
theorem dX9_other_60 : decode cX9_other 60 = .ok (.if_icmp .ge 66, 3) := dq_162 (hz_wg wX9_other_0 (j := 60) (n := 162) rfl) (hz_wg wX9_other_0 (j := 61) (n := 0) rfl) (hz_wg wX9_other_0 (j := 62) (n := 66) rfl) (by decide)
theorem dX9_other_63 : decode cX9_other 63 = .ok (.aload_n 0, 1) := dq_42 (hz_wg wX9_other_0 (j := 63) (n := 42) rfl)
theorem dX9_other_64 : decode cX9_other 64 = .ok (.aload_n 0, 1) := dq_42 (hz_wg wX9_other_1 (j := 0) (n := 42) rfl)
theorem dX9_other_65 : decode cX9_other 65 = .ok (.getfield 52, 3) := dq_180 (hz_wg wX9_other_1 (j := 1) (n := 180) rfl) (hz_wg wX9_other_1 (j := 2) (n := 0) rfl) (hz_wg wX9_other_1 (j := 3) (n := 52) rfl) rfl
theorem dX9_other_68 : decode cX9_other 68 = .ok (.iload 6, 2) := dq_21 (hz_wg wX9_other_1 (j := 4) (n := 21) rfl) (hz_wg wX9_other_1 (j := 5) (n := 6) rfl)
theorem dX9_other_70 : decode cX9_other 70 = .ok (.aaload, 1) := dq_50 (hz_wg wX9_other_1 (j := 6) (n := 50) rfl)
theorem dX9_other_71 : decode cX9_other 71 = .ok (.aload_n 3, 1) := dq_45 (hz_wg wX9_other_1 (j := 7) (n := 45) rfl)
theorem dX9_other_72 : decode cX9_other 72 = .ok (.invokevirtual 229, 3) := dq_182 (hz_wg wX9_other_1 (j := 8) (n := 182) rfl) (hz_wg wX9_other_1 (j := 9) (n := 0) rfl) (hz_wg wX9_other_1 (j := 10) (n := 229) rfl) rfl
theorem dX9_other_75 : decode cX9_other 75 = .ok (.istore 7, 2) := dq_54 (hz_wg wX9_other_1 (j := 11) (n := 54) rfl) (hz_wg wX9_other_1 (j := 12) (n := 7) rfl)
theorem dX9_other_77 : decode cX9_other 77 = .ok (.iload 4, 2) := dq_21 (hz_wg wX9_other_1 (j := 13) (n := 21) rfl) (hz_wg wX9_other_1 (j := 14) (n := 4) rfl)
theorem dX9_other_79 : decode cX9_other 79 = .ok (.iload 7, 2) := dq_21 (hz_wg wX9_other_1 (j := 15) (n := 21) rfl) (hz_wg wX9_other_1 (j := 16) (n := 7) rfl)
theorem dX9_other_81 : decode cX9_other 81 = .ok (.iload_n 2, 1) := dq_28 (hz_wg wX9_other_1 (j := 17) (n := 28) rfl)
theorem dX9_other_82 : decode cX9_other 82 = .ok (.if_icmp .ne 7, 3) := dq_160 (hz_wg wX9_other_1 (j := 18) (n := 160) rfl) (hz_wg wX9_other_1 (j := 19) (n := 0) rfl) (hz_wg wX9_other_1 (j := 20) (n := 7) rfl) (by decide)
theorem dX9_other_85 : decode cX9_other 85 = .ok (.iconst 1, 1) := dq_4 (hz_wg wX9_other_1 (j := 21) (n := 4) rfl)
theorem dX9_other_86 : decode cX9_other 86 = .ok (.goto 4, 3) := dq_167 (hz_wg wX9_other_1 (j := 22) (n := 167) rfl) (hz_wg wX9_other_1 (j := 23) (n := 0) rfl) (hz_wg wX9_other_1 (j := 24) (n := 4) rfl) (by decide)
theorem dX9_other_89 : decode cX9_other 89 = .ok (.iconst 0, 1) := dq_3 (hz_wg wX9_other_1 (j := 25) (n := 3) rfl)
theorem dX9_other_90 : decode cX9_other 90 = .ok (.iadd, 1) := dq_96 (hz_wg wX9_other_1 (j := 26) (n := 96) rfl)
theorem dX9_other_91 : decode cX9_other 91 = .ok (.istore 4, 2) := dq_54 (hz_wg wX9_other_1 (j := 27) (n := 54) rfl) (hz_wg wX9_other_1 (j := 28) (n := 4) rfl)
theorem dX9_other_93 : decode cX9_other 93 = .ok (.iload 5, 2) := dq_21 (hz_wg wX9_other_1 (j := 29) (n := 21) rfl) (hz_wg wX9_other_1 (j := 30) (n := 5) rfl)
theorem dX9_other_95 : decode cX9_other 95 = .ok (.aload_n 0, 1) := dq_42 (hz_wg wX9_other_1 (j := 31) (n := 42) rfl)
theorem dX9_other_96 : decode cX9_other 96 = .ok (.getfield 52, 3) := dq_180 (hz_wg wX9_other_1 (j := 32) (n := 180) rfl) (hz_wg wX9_other_1 (j := 33) (n := 0) rfl) (hz_wg wX9_other_1 (j := 34) (n := 52) rfl) rfl
theorem dX9_other_99 : decode cX9_other 99 = .ok (.iload 6, 2) := dq_21 (hz_wg wX9_other_1 (j := 35) (n := 21) rfl) (hz_wg wX9_other_1 (j := 36) (n := 6) rfl)
theorem dX9_other_101 : decode cX9_other 101 = .ok (.aaload, 1) := dq_50 (hz_wg wX9_other_1 (j := 37) (n := 50) rfl)
theorem dX9_other_102 : decode cX9_other 102 = .ok (.aload_n 3, 1) := dq_45 (hz_wg wX9_other_1 (j := 38) (n := 45) rfl)
theorem dX9_other_103 : decode cX9_other 103 = .ok (.iload 7, 2) := dq_21 (hz_wg wX9_other_1 (j := 39) (n := 21) rfl) (hz_wg wX9_other_1 (j := 40) (n := 7) rfl)
theorem dX9_other_105 : decode cX9_other 105 = .ok (.iconst 5, 1) := dq_8 (hz_wg wX9_other_1 (j := 41) (n := 8) rfl)
theorem dX9_other_106 : decode cX9_other 106 = .ok (.if_icmp .ne 7, 3) := dq_160 (hz_wg wX9_other_1 (j := 42) (n := 160) rfl) (hz_wg wX9_other_1 (j := 43) (n := 0) rfl) (hz_wg wX9_other_1 (j := 44) (n := 7) rfl) (by decide)
theorem dX9_other_109 : decode cX9_other 109 = .ok (.iconst 1, 1) := dq_4 (hz_wg wX9_other_1 (j := 45) (n := 4) rfl)
theorem dX9_other_110 : decode cX9_other 110 = .ok (.goto 4, 3) := dq_167 (hz_wg wX9_other_1 (j := 46) (n := 167) rfl) (hz_wg wX9_other_1 (j := 47) (n := 0) rfl) (hz_wg wX9_other_1 (j := 48) (n := 4) rfl) (by decide)
theorem dX9_other_113 : decode cX9_other 113 = .ok (.iconst 0, 1) := dq_3 (hz_wg wX9_other_1 (j := 49) (n := 3) rfl)
theorem dX9_other_114 : decode cX9_other 114 = .ok (.invokevirtual 256, 3) := dq_182 (hz_wg wX9_other_1 (j := 50) (n := 182) rfl) (hz_wg wX9_other_1 (j := 51) (n := 1) rfl) (hz_wg wX9_other_1 (j := 52) (n := 0) rfl) rfl
theorem dX9_other_117 : decode cX9_other 117 = .ok (.iadd, 1) := dq_96 (hz_wg wX9_other_1 (j := 53) (n := 96) rfl)
theorem dX9_other_118 : decode cX9_other 118 = .ok (.istore 5, 2) := dq_54 (hz_wg wX9_other_1 (j := 54) (n := 54) rfl) (hz_wg wX9_other_1 (j := 55) (n := 5) rfl)
theorem dX9_other_120 : decode cX9_other 120 = .ok (.iinc 6 1, 3) := dq_132 (hz_wg wX9_other_1 (j := 56) (n := 132) rfl) (hz_wg wX9_other_1 (j := 57) (n := 6) rfl) (hz_wg wX9_other_1 (j := 58) (n := 1) rfl) (by decide)
theorem dX9_other_123 : decode cX9_other 123 = .ok (.goto (-69), 3) := dq_167 (hz_wg wX9_other_1 (j := 59) (n := 167) rfl) (hz_wg wX9_other_1 (j := 60) (n := 255) rfl) (hz_wg wX9_other_1 (j := 61) (n := 187) rfl) (by decide)
theorem dX9_other_126 : decode cX9_other 126 = .ok (.iload_n 2, 1) := dq_28 (hz_wg wX9_other_1 (j := 62) (n := 28) rfl)
theorem dX9_other_127 : decode cX9_other 127 = .ok (.iconst 5, 1) := dq_8 (hz_wg wX9_other_1 (j := 63) (n := 8) rfl)
theorem dX9_other_128 : decode cX9_other 128 = .ok (.if_icmp .le 8, 3) := dq_164 (hz_wg wX9_other_2 (j := 0) (n := 164) rfl) (hz_wg wX9_other_2 (j := 1) (n := 0) rfl) (hz_wg wX9_other_2 (j := 2) (n := 8) rfl) (by decide)
theorem dX9_other_131 : decode cX9_other 131 = .ok (.iload 5, 2) := dq_21 (hz_wg wX9_other_2 (j := 3) (n := 21) rfl) (hz_wg wX9_other_2 (j := 4) (n := 5) rfl)
theorem dX9_other_133 : decode cX9_other 133 = .ok (.goto 5, 3) := dq_167 (hz_wg wX9_other_2 (j := 5) (n := 167) rfl) (hz_wg wX9_other_2 (j := 6) (n := 0) rfl) (hz_wg wX9_other_2 (j := 7) (n := 5) rfl) (by decide)
theorem dX9_other_136 : decode cX9_other 136 = .ok (.iload 4, 2) := dq_21 (hz_wg wX9_other_2 (j := 8) (n := 21) rfl) (hz_wg wX9_other_2 (j := 9) (n := 4) rfl)
theorem dX9_other_138 : decode cX9_other 138 = .ok (.ireturn, 1) := dq_172 (hz_wg wX9_other_2 (j := 10) (n := 172) rfl)
set_option maxHeartbeats 4000000 in
set_option maxRecDepth 100000 in
theorem t_X9_other (l : Launch) (dC : Nat → ClassId) (dI : Nat → Nat → Nat) (dA : Nat → ClassId) (L : List Nat) (h : hx_h) (sz : Nat) (x : Nat) (i1 : Int32) (i2 : Int32) (hT : hx_T T_tb L h) (gx : hx_g L h x 9) (qa : Nat) (gqa : hx_g L h qa 43) (f_x_5 : h.2.2 x 5 = some qa) (qh : Nat) (gqh : hx_g L h qh 46) (f_x_12 : h.2.2 x 12 = some qh) (qc : Nat) (gqc : hx_g L h qc 45) (f_x_10 : h.2.2 x 10 = some qc) (pf_x_6 : ∀ j : Nat, (j : Int) < (h.2.1 x 6).toInt → h.2.2 qa j ≠ none) (pf_x_13 : ∀ j : Nat, (j : Int) < (h.2.1 x 13).toInt → h.2.2 qh j ≠ none) (pf_x_11 : ∀ j : Nat, (j : Int) < (h.2.1 x 11).toInt → h.2.2 qc j ≠ none) : Met l yX9_other (Cond.code yX9_other cX9_other 8 (some .int) :: hx_all) ({ frames := 3, cells := 0, slots := 0, locals := 71 }) (va_Pc [.ref x, .int i1, .int i2] (hx_B T_tb (P_ty dA) (dC, dI) vwCl L h sz)) (va_Qi (fun (r : Int32) (u : List Nat × hx_h) => (True) ∧ hx_T T_tb u.1 u.2 ∧ hx_S T_tb [] L h u.1 u.2) (hx_E T_tb (P_ty dA) (dC, dI) vwCl (hx_A L sz)) (hx_A L sz)) 0 0 (hx_A L sz) := by
  refine hx_met (lv := [(0, .ref x), (1, .int i1), (2, .int i2)]) (by decide +kernel) rfl (Nat.le_of_ble_eq_true rfl) rfl ?_
  intro p e s m below meth c hx hb hml hr hlk hts0 hown hin hsz hW ls hl
  have hts : ∀ w ∈ hx_all, w.before _ s = true := fun w hw => hts0 w (List.mem_cons_of_mem _ hw)
  have hown : s.vm.findClass "SmallCourt" = some m.cls := hown
  have hM : hx_S T_tb [] L h L h := hx_S.rf
  refine lv_iload_n hx hb dX9_other_0 rfl (lv_at hl 1 rfl) ?_
  refine lv_iconst (v := -1) hx hb dX9_other_1 (by decide) ?_
  refine hb_icmp_lt (zx := i1.toInt) (zy := (-1)) (tgt := 24) hx hb rfl (by decide) dX9_other_2 (by decide) (fun c_1 => ?_) (fun c_1 => ?_)
  · skip
    refine lv_iconst (v := -1) hx hb dX9_other_24 (by decide) ?_
    exact hx_reti hx hb hr hlk hW ⟨trivial, hT, hM⟩ dX9_other_25
  · skip
    refine lv_iload_n hx hb dX9_other_5 rfl (lv_at hl 1 rfl) ?_
    refine lv_aload_n hx hb dX9_other_6 rfl (lv_at hl 0 rfl) ?_
    refine hx_geti hx hb hts hC_9 hown hW hT (gx.S hM) tt_9 6 (by decide) rfl kw_370 ⟨rfl, rfl, rfl⟩ dX9_other_7 (fun x_2 ex_2 lx_2 ux_2 => ?_)
    have fx_2 := ex_2.symm
    refine hb_icmp_ge (zx := i1.toInt) (zy := x_2.toInt) (tgt := 24) hx hb rfl rfl dX9_other_10 (by decide) (fun c_3 => ?_) (fun c_3 => ?_)
    · skip
      refine lv_iconst (v := -1) hx hb dX9_other_24 (by decide) ?_
      exact hx_reti hx hb hr hlk hW ⟨trivial, hT, hM⟩ dX9_other_25
    · skip
      refine lv_iload_n hx hb dX9_other_13 rfl (lv_at hl 2 rfl) ?_
      refine lv_iconst (v := 1) hx hb dX9_other_14 (by decide) ?_
      refine hb_icmp_lt (zx := i2.toInt) (zy := 1) (tgt := 24) hx hb rfl (by decide) dX9_other_15 (by decide) (fun c_4 => ?_) (fun c_4 => ?_)
      · skip
        refine lv_iconst (v := -1) hx hb dX9_other_24 (by decide) ?_
        exact hx_reti hx hb hr hlk hW ⟨trivial, hT, hM⟩ dX9_other_25
      · skip
        refine lv_iload_n hx hb dX9_other_18 rfl (lv_at hl 2 rfl) ?_
        refine lv_bipush (v := 6) hx hb dX9_other_19 (by decide) ?_
        refine hb_icmp_le (zx := i2.toInt) (zy := 6) (tgt := 26) hx hb rfl (by decide) dX9_other_21 (by decide) (fun c_5 => ?_) (fun c_5 => ?_)
        · skip
          refine lv_iload_n hx hb dX9_other_26 rfl (lv_at hl 1 rfl) ?_
          refine lv_iconst (v := -1) hx hb dX9_other_27 (by decide) ?_
          refine hb_icmp_ne (zx := i1.toInt) (zy := (-1)) (tgt := 38) hx hb rfl (by decide) dX9_other_28 (by decide) (fun c_6 => ?_) (fun c_6 => ?_)
          · skip
            refine lv_aload_n hx hb dX9_other_38 rfl (lv_at hl 0 rfl) ?_
            refine hk_getr hx hb hts hC_9 hown hW (gx.S hM) tt_9 5 (by decide) rfl kw_369 ⟨rfl, rfl, rfl⟩ ((hM.o gx trivial rfl).2.trans f_x_5) dX9_other_39 ?_
            refine lv_iload_n hx hb dX9_other_42 rfl (lv_at hl 1 rfl) ?_
            refine hx_aaldN hx hb hW hT (gqa.S hM) tt_43 (t1 := 0) rfl ⟨by omega, by omega⟩ (pf_x_6 _ (by rw [fx_2]; exact hx_tnI (by omega) (by omega))) dX9_other_43 (fun q_7 fq_7 gq_7 => ?_)
            refine lv_astore_n (lv' := [(3, .ref q_7), (0, .ref x), (1, .int i1), (2, .int i2)]) hx hb dX9_other_44 rfl hl (by decide) rfl (fun ls hl => ?_)
            refine lv_iconst (v := 0) hx hb dX9_other_45 (by decide) ?_
            refine lv_istore (lv' := [(4, .int (0 : Int32)), (3, .ref q_7), (0, .ref x), (1, .int i1), (2, .int i2)]) hx hb dX9_other_46 hl (by decide) rfl (fun ls hl => ?_)
            refine lv_iconst (v := 0) hx hb dX9_other_48 (by decide) ?_
            refine lv_istore (lv' := [(5, .int (0 : Int32)), (4, .int (0 : Int32)), (3, .ref q_7), (0, .ref x), (1, .int i1), (2, .int i2)]) hx hb dX9_other_49 hl (by decide) rfl (fun ls hl => ?_)
            refine lv_iconst (v := 0) hx hb dX9_other_51 (by decide) ?_
            refine lv_istore (lv' := [(6, .int (0 : Int32)), (5, .int (0 : Int32)), (4, .int (0 : Int32)), (3, .ref q_7), (0, .ref x), (1, .int i1), (2, .int i2)]) hx hb dX9_other_52 hl (by decide) rfl (fun ls hl => ?_)
            have loop54 : ∀ (n54 : Nat) (iv54_4 iv54_5 iv54_6 : Int32) (H : Heap) (locs : List Loc) (hL1 : List Nat) (hl1 : hx_h), -2147483648 ≤ iv54_4.toInt → iv54_4.toInt ≤ 2147483647 → -2147483648 ≤ iv54_5.toInt → iv54_5.toInt ≤ 2147483647 → 0 ≤ iv54_6.toInt → iv54_6.toInt ≤ 100 → ∀ (ls : Array Slot), 100 - iv54_6.toInt < (n54 : Int) → hx_W T_tb (P_ty dA) (dC, dI) vwCl (hx_A L sz) s.heap hL1 hl1 s H locs → hx_T T_tb hL1 hl1 → hx_S T_tb [] L h hL1 hl1 → hl1.2.1 x 6 = x_2 → hx_g hL1 hl1 q_7 0 → (∀ j : Nat, (j : Int) < (hl1.2.1 x 6).toInt → hl1.2.2 qa j ≠ none) → (∀ j : Nat, (j : Int) < (hl1.2.1 x 13).toInt → hl1.2.2 qh j ≠ none) → (∀ j : Nat, (j : Int) < (hl1.2.1 x 11).toInt → hl1.2.2 qc j ≠ none) → lv_has ls 8 [(6, .int iv54_6), (5, .int iv54_5), (4, .int iv54_4), (3, .ref q_7), (0, .ref x), (1, .int i1), (2, .int i2)] → W p l e ({ frames := 3, cells := 0, slots := 0, locals := 71 }) s m ([.ref x, .int i1, .int i2] : List Value).toArray below meth c H locs 0 0 (MQ below (va_Qi (fun (r : Int32) (u : List Nat × hx_h) => (True) ∧ hx_T T_tb u.1 u.2 ∧ hx_S T_tb [] L h u.1 u.2) (hx_E T_tb (P_ty dA) (dC, dI) vwCl (hx_A L sz)) (hx_A L sz)) ([.ref x, .int i1, .int i2] : List Value).toArray s 0 0 (hx_A L sz)) (F0 m 54 ls []) := by
              intro n54
              induction n54 with
              | zero => intro iv54_4 iv54_5 iv54_6 H locs hL1 hl1 bliv54_4 buiv54_4 bliv54_5 buiv54_5 bliv54_6 buiv54_6  ls hn54; exfalso; omega
              | succ n54 ih54 =>
                intro iv54_4 iv54_5 iv54_6 H locs hL1 hl1 bliv54_4 buiv54_4 bliv54_5 buiv54_5 bliv54_6 buiv54_6  ls hn54 hW hT hM fx_2 gq_7 pf_x_6 pf_x_13 pf_x_11 hl
                refine lv_iload hx hb dX9_other_54 (lv_at hl 0 rfl) ?_
                refine lv_aload_n hx hb dX9_other_56 rfl (lv_at hl 4 rfl) ?_
                refine hx_geti hx hb hts hC_9 hown hW hT (gx.S hM) tt_9 13 (by decide) rfl kw_377 ⟨rfl, rfl, rfl⟩ dX9_other_57 (fun x_8 ex_8 lx_8 ux_8 => ?_)
                have fx_8 := ex_8.symm
                refine hb_icmp_ge (zx := iv54_6.toInt) (zy := x_8.toInt) (tgt := 126) hx hb rfl rfl dX9_other_60 (by decide) (fun c_9 => ?_) (fun c_9 => ?_)
                · skip
                  refine lv_iload_n hx hb dX9_other_126 rfl (lv_at hl 6 rfl) ?_
                  refine lv_iconst (v := 5) hx hb dX9_other_127 (by decide) ?_
                  refine hb_icmp_le (zx := i2.toInt) (zy := 5) (tgt := 136) hx hb rfl (by decide) dX9_other_128 (by decide) (fun c_10 => ?_) (fun c_10 => ?_)
                  · skip
                    refine lv_iload hx hb dX9_other_136 (lv_at hl 2 rfl) ?_
                    exact hx_reti hx hb hr hlk hW ⟨trivial, hT, hM⟩ dX9_other_138
                  · skip
                    refine lv_iload hx hb dX9_other_131 (lv_at hl 1 rfl) ?_
                    refine lv_goto (tgt := 138) hx hb dX9_other_133 (by decide) ?_
                    exact hx_reti hx hb hr hlk hW ⟨trivial, hT, hM⟩ dX9_other_138
                · skip
                  refine lv_aload_n hx hb dX9_other_63 rfl (lv_at hl 4 rfl) ?_
                  refine lv_aload_n hx hb dX9_other_64 rfl (lv_at hl 4 rfl) ?_
                  refine hk_getr hx hb hts hC_9 hown hW (gx.S hM) tt_9 12 (by decide) rfl kw_376 ⟨rfl, rfl, rfl⟩ ((hM.o gx trivial rfl).2.trans f_x_12) dX9_other_65 ?_
                  refine lv_iload hx hb dX9_other_68 (lv_at hl 0 rfl) ?_
                  refine hx_aaldN hx hb hW hT (gqh.S hM) tt_46 (t1 := 2) rfl ⟨by omega, by omega⟩ (pf_x_13 _ (by rw [fx_8]; exact hx_tnI (by omega) (by omega))) dX9_other_70 (fun q_11 fq_11 gq_11 => ?_)
                  refine lv_aload_n hx hb dX9_other_71 rfl (lv_at hl 3 rfl) ?_
                  refine hx_goi (hx_runV (As := [.ref q_11, .ref q_7]) (rest := []) ⟨hx, hb, hml, hown, hts⟩ hW (gx.S hM) tt_9 (T := TX9) (N := 20) rfl (t_X9_judgement l dC dI dA hL1 hl1 H.size x q_11 q_7 hT (gx.S hM) gq_11 gq_7 qc (gqc.S hM) ((hM.o gx trivial rfl).2.trans f_x_10) pf_x_11) (cwV 2 hts (hx_gV kw_830 kw_827 kw_829 kw_28 kw_94) rfl rfl rfl (by decide +kernel) ⟨Nat.le_of_ble_eq_true rfl, Nat.le_of_ble_eq_true rfl⟩) rfl hl.1 rfl (Nat.le_of_ble_eq_true rfl) dX9_other_72 ⟨Nat.le_of_ble_eq_true rfl, Nat.le_of_ble_eq_true rfl⟩) hW (fun r_14 L_12 h_13 H locs p_15 hW => ?_)
                  obtain ⟨hr_16, hT, hs⟩ := p_15
                  replace hT : hx_T T_tb L_12 h_13 := hT
                  replace hs : hx_S T_tb [] hL1 hl1 L_12 h_13 := hs
                  replace fx_2 := (hs.o (gx.S hM) trivial rfl).1.trans fx_2
                  replace fx_8 := (hs.o (gx.S hM) trivial rfl).1.trans fx_8
                  replace pf_x_6 : ∀ j : Nat, (j : Int) < (h_13.2.1 x 6).toInt → h_13.2.2 qa j ≠ none := by
                    intro j hj; rw [(hs.o (gx.S hM) trivial rfl).1] at hj; rw [(hs.a (gqa.S hM) rfl j).2]; exact pf_x_6 j hj
                  replace pf_x_13 : ∀ j : Nat, (j : Int) < (h_13.2.1 x 13).toInt → h_13.2.2 qh j ≠ none := by
                    intro j hj; rw [(hs.o (gx.S hM) trivial rfl).1] at hj; rw [(hs.a (gqh.S hM) rfl j).2]; exact pf_x_13 j hj
                  replace pf_x_11 : ∀ j : Nat, (j : Int) < (h_13.2.1 x 11).toInt → h_13.2.2 qc j ≠ none := by
                    intro j hj; rw [(hs.o (gx.S hM) trivial rfl).1] at hj; rw [(hs.a (gqc.S hM) rfl j).2]; exact pf_x_11 j hj
                  replace hM := hM.tr (hs.mono (by decide))
                  replace gq_7 := gq_7.S hs
                  replace gq_11 := gq_11.S hs
                  refine lv_istore (lv' := [(7, .int r_14), (6, .int iv54_6), (5, .int iv54_5), (4, .int iv54_4), (3, .ref q_7), (0, .ref x), (1, .int i1), (2, .int i2)]) hx hb dX9_other_75 hl (by decide) rfl (fun ls hl => ?_)
                  refine lv_iload hx hb dX9_other_77 (lv_at hl 3 rfl) ?_
                  refine lv_iload hx hb dX9_other_79 (lv_at hl 0 rfl) ?_
                  refine lv_iload_n hx hb dX9_other_81 rfl (lv_at hl 7 rfl) ?_
                  have jn_90 : ∀ (xj_17 : Int32) (ls : Array Slot), 0 ≤ xj_17.toInt → xj_17.toInt ≤ 1 → lv_has ls 8 [(7, .int r_14), (6, .int iv54_6), (5, .int iv54_5), (4, .int iv54_4), (3, .ref q_7), (0, .ref x), (1, .int i1), (2, .int i2)] → W p l e ({ frames := 3, cells := 0, slots := 0, locals := 71 }) s m ([.ref x, .int i1, .int i2] : List Value).toArray below meth c H locs 0 0 (MQ below (va_Qi (fun (r : Int32) (u : List Nat × hx_h) => (True) ∧ hx_T T_tb u.1 u.2 ∧ hx_S T_tb [] L h u.1 u.2) (hx_E T_tb (P_ty dA) (dC, dI) vwCl (hx_A L sz)) (hx_A L sz)) ([.ref x, .int i1, .int i2] : List Value).toArray s 0 0 (hx_A L sz)) (F0 m 90 ls [.int xj_17, .int iv54_4]) := by
                    intro xj_17 ls blxj_17 buxj_17 hl
                    refine lv_iadd hx hb dX9_other_90 ?_
                    have rg_18 := i32_r iv54_4
                    have rg_19 := i32_r xj_17
                    refine lv_topi (fun x_20 ex_20 => ?_)
                    refine lv_istore (lv' := [(4, .int x_20), (7, .int r_14), (6, .int iv54_6), (5, .int iv54_5), (3, .ref q_7), (0, .ref x), (1, .int i1), (2, .int i2)]) hx hb dX9_other_91 hl (by decide) rfl (fun ls hl => ?_)
                    refine lv_iload hx hb dX9_other_93 (lv_at hl 3 rfl) ?_
                    refine lv_aload_n hx hb dX9_other_95 rfl (lv_at hl 5 rfl) ?_
                    refine hk_getr hx hb hts hC_9 hown hW (gx.S hM) tt_9 12 (by decide) rfl kw_376 ⟨rfl, rfl, rfl⟩ ((hM.o gx trivial rfl).2.trans f_x_12) dX9_other_96 ?_
                    refine lv_iload hx hb dX9_other_99 (lv_at hl 2 rfl) ?_
                    refine hx_aaldN hx hb hW hT (gqh.S hM) tt_46 (t1 := 2) rfl ⟨by omega, by omega⟩ (pf_x_13 _ (by rw [fx_8]; exact hx_tnI (by omega) (by omega))) dX9_other_101 (fun q_21 fq_21 gq_21 => ?_)
                    refine lv_aload_n hx hb dX9_other_102 rfl (lv_at hl 4 rfl) ?_
                    refine lv_iload hx hb dX9_other_103 (lv_at hl 1 rfl) ?_
                    refine lv_iconst (v := 5) hx hb dX9_other_105 (by decide) ?_
                    have jn_114 : ∀ (xj_22 : Int32) (ls : Array Slot), 0 ≤ xj_22.toInt → xj_22.toInt ≤ 1 → lv_has ls 8 [(4, .int x_20), (7, .int r_14), (6, .int iv54_6), (5, .int iv54_5), (3, .ref q_7), (0, .ref x), (1, .int i1), (2, .int i2)] → W p l e ({ frames := 3, cells := 0, slots := 0, locals := 71 }) s m ([.ref x, .int i1, .int i2] : List Value).toArray below meth c H locs 0 0 (MQ below (va_Qi (fun (r : Int32) (u : List Nat × hx_h) => (True) ∧ hx_T T_tb u.1 u.2 ∧ hx_S T_tb [] L h u.1 u.2) (hx_E T_tb (P_ty dA) (dC, dI) vwCl (hx_A L sz)) (hx_A L sz)) ([.ref x, .int i1, .int i2] : List Value).toArray s 0 0 (hx_A L sz)) (F0 m 114 ls [.int xj_22, .ref q_7, .ref q_21, .int iv54_5]) := by
                      intro xj_22 ls blxj_22 buxj_22 hl
                      refine hx_goi (hx_runV (As := [.ref q_7, .int xj_22]) (rest := [.int iv54_5]) ⟨hx, hb, hml, hown, hts⟩ hW gq_21 tt_2 (T := TX2) (N := 19) rfl (t_X2_costsBy l dC dI dA L_12 h_13 H.size q_21 q_7 xj_22 hT gq_21 gq_7) (cwV 2 hts (hx_gV kw_849 kw_846 kw_847 kw_848 kw_110) rfl rfl rfl (by decide +kernel) ⟨Nat.le_of_ble_eq_true rfl, Nat.le_of_ble_eq_true rfl⟩) rfl hl.1 rfl (Nat.le_of_ble_eq_true rfl) dX9_other_114 ⟨Nat.le_of_ble_eq_true rfl, Nat.le_of_ble_eq_true rfl⟩) hW (fun r_25 L_23 h_24 H locs p_26 hW => ?_)
                      obtain ⟨hr_27, hT, hs⟩ := p_26
                      replace hT : hx_T T_tb L_23 h_24 := hT
                      replace hs : hx_S T_tb [] L_12 h_13 L_23 h_24 := hs
                      replace fx_2 := (hs.o (gx.S hM) trivial rfl).1.trans fx_2
                      replace fx_8 := (hs.o (gx.S hM) trivial rfl).1.trans fx_8
                      replace pf_x_6 : ∀ j : Nat, (j : Int) < (h_24.2.1 x 6).toInt → h_24.2.2 qa j ≠ none := by
                        intro j hj; rw [(hs.o (gx.S hM) trivial rfl).1] at hj; rw [(hs.a (gqa.S hM) rfl j).2]; exact pf_x_6 j hj
                      replace pf_x_13 : ∀ j : Nat, (j : Int) < (h_24.2.1 x 13).toInt → h_24.2.2 qh j ≠ none := by
                        intro j hj; rw [(hs.o (gx.S hM) trivial rfl).1] at hj; rw [(hs.a (gqh.S hM) rfl j).2]; exact pf_x_13 j hj
                      replace pf_x_11 : ∀ j : Nat, (j : Int) < (h_24.2.1 x 11).toInt → h_24.2.2 qc j ≠ none := by
                        intro j hj; rw [(hs.o (gx.S hM) trivial rfl).1] at hj; rw [(hs.a (gqc.S hM) rfl j).2]; exact pf_x_11 j hj
                      replace hM := hM.tr (hs.mono (by decide))
                      replace gq_7 := gq_7.S hs
                      replace gq_11 := gq_11.S hs
                      replace gq_21 := gq_21.S hs
                      refine lv_iadd hx hb dX9_other_117 ?_
                      have rg_28 := i32_r iv54_5
                      have rg_29 := i32_r r_25
                      refine lv_topi (fun x_30 ex_30 => ?_)
                      refine lv_istore (lv' := [(5, .int x_30), (4, .int x_20), (7, .int r_14), (6, .int iv54_6), (3, .ref q_7), (0, .ref x), (1, .int i1), (2, .int i2)]) hx hb dX9_other_118 hl (by decide) rfl (fun ls hl => ?_)
                      obtain ⟨x_31, ex_31⟩ : ∃ y : Int32, y = iv54_6 + Int32.ofInt 1 := ⟨_, rfl⟩
                      have rg_32 := i32_r iv54_6
                      have zx_31 : x_31.toInt = iv54_6.toInt + (1) := by rw [ex_31]; exact i32_add rfl (by decide) (by omega) (by omega)
                      refine lv_iinc (v := x_31) (lv' := [(6, .int x_31), (5, .int x_30), (4, .int x_20), (7, .int r_14), (3, .ref q_7), (0, .ref x), (1, .int i1), (2, .int i2)]) hx hb dX9_other_120 hl (k := 3) rfl ex_31.symm (by decide) rfl (fun ls hl => ?_)
                      refine lv_goto (tgt := 54) hx hb dX9_other_123 (by decide) ?_
                      exact ih54 x_20 x_30 x_31 _ _ L_23 h_24 (i32_r _).1 (i32_r _).2 (i32_r _).1 (i32_r _).2 (by omega) (by omega)  ls (by omega) hW hT hM fx_2 gq_7 pf_x_6 pf_x_13 pf_x_11 (lv_sub hl [0, 1, 2, 4, 5, 6, 7] rfl)
                    refine hb_icmp_ne (zx := r_14.toInt) (zy := 5) (tgt := 113) hx hb rfl (by decide) dX9_other_106 (by decide) (fun c_33 => ?_) (fun c_33 => ?_)
                    · skip
                      refine lv_iconst (v := 0) hx hb dX9_other_113 (by decide) ?_
                      exact jn_114 (0 : Int32) ls (by decide) (by decide) hl
                    · skip
                      refine lv_iconst (v := 1) hx hb dX9_other_109 (by decide) ?_
                      refine lv_goto (tgt := 114) hx hb dX9_other_110 (by decide) ?_
                      exact jn_114 (1 : Int32) ls (by decide) (by decide) hl
                  refine hb_icmp_ne (zx := r_14.toInt) (zy := i2.toInt) (tgt := 89) hx hb rfl rfl dX9_other_82 (by decide) (fun c_34 => ?_) (fun c_34 => ?_)
                  · skip
                    refine lv_iconst (v := 0) hx hb dX9_other_89 (by decide) ?_
                    exact jn_90 (0 : Int32) ls (by decide) (by decide) hl
                  · skip
                    refine lv_iconst (v := 1) hx hb dX9_other_85 (by decide) ?_
                    refine lv_goto (tgt := 90) hx hb dX9_other_86 (by decide) ?_
                    exact jn_90 (1 : Int32) ls (by decide) (by decide) hl
            have zk_0 : (0 : Int32).toInt = 0 := by decide
            have zk_0 : (0 : Int32).toInt = 0 := by decide
            have zk_0 : (0 : Int32).toInt = 0 := by decide
            exact loop54 101 (0 : Int32) (0 : Int32) (0 : Int32) _ _ L h (by decide) (by decide) (by decide) (by decide) (by decide) (by decide)  ls (by omega) hW hT hM fx_2 gq_7 pf_x_6 pf_x_13 pf_x_11 hl
          · skip
            refine lv_aload_n hx hb dX9_other_31 rfl (lv_at hl 0 rfl) ?_
            refine hx_getn hx hb hts hC_9 hown hW hT (gx.S hM) tt_9 4 (by decide) rfl kw_368 ⟨rfl, rfl, rfl⟩ dX9_other_32 (fun q_35 fq_35 gq_35 => ?_)
            refine lv_goto (tgt := 44) hx hb dX9_other_35 (by decide) ?_
            refine lv_astore_n (lv' := [(3, .ref q_35), (0, .ref x), (1, .int i1), (2, .int i2)]) hx hb dX9_other_44 rfl hl (by decide) rfl (fun ls hl => ?_)
            refine lv_iconst (v := 0) hx hb dX9_other_45 (by decide) ?_
            refine lv_istore (lv' := [(4, .int (0 : Int32)), (3, .ref q_35), (0, .ref x), (1, .int i1), (2, .int i2)]) hx hb dX9_other_46 hl (by decide) rfl (fun ls hl => ?_)
            refine lv_iconst (v := 0) hx hb dX9_other_48 (by decide) ?_
            refine lv_istore (lv' := [(5, .int (0 : Int32)), (4, .int (0 : Int32)), (3, .ref q_35), (0, .ref x), (1, .int i1), (2, .int i2)]) hx hb dX9_other_49 hl (by decide) rfl (fun ls hl => ?_)
            refine lv_iconst (v := 0) hx hb dX9_other_51 (by decide) ?_
            refine lv_istore (lv' := [(6, .int (0 : Int32)), (5, .int (0 : Int32)), (4, .int (0 : Int32)), (3, .ref q_35), (0, .ref x), (1, .int i1), (2, .int i2)]) hx hb dX9_other_52 hl (by decide) rfl (fun ls hl => ?_)
            have loop54 : ∀ (n54 : Nat) (iv54_4 iv54_5 iv54_6 : Int32) (H : Heap) (locs : List Loc) (hL1 : List Nat) (hl1 : hx_h), -2147483648 ≤ iv54_4.toInt → iv54_4.toInt ≤ 2147483647 → -2147483648 ≤ iv54_5.toInt → iv54_5.toInt ≤ 2147483647 → 0 ≤ iv54_6.toInt → iv54_6.toInt ≤ 100 → ∀ (ls : Array Slot), 100 - iv54_6.toInt < (n54 : Int) → hx_W T_tb (P_ty dA) (dC, dI) vwCl (hx_A L sz) s.heap hL1 hl1 s H locs → hx_T T_tb hL1 hl1 → hx_S T_tb [] L h hL1 hl1 → hl1.2.1 x 6 = x_2 → hl1.2.2 x 4 = some q_35 → hx_g hL1 hl1 q_35 0 → (∀ j : Nat, (j : Int) < (hl1.2.1 x 6).toInt → hl1.2.2 qa j ≠ none) → (∀ j : Nat, (j : Int) < (hl1.2.1 x 13).toInt → hl1.2.2 qh j ≠ none) → (∀ j : Nat, (j : Int) < (hl1.2.1 x 11).toInt → hl1.2.2 qc j ≠ none) → lv_has ls 8 [(6, .int iv54_6), (5, .int iv54_5), (4, .int iv54_4), (3, .ref q_35), (0, .ref x), (1, .int i1), (2, .int i2)] → W p l e ({ frames := 3, cells := 0, slots := 0, locals := 71 }) s m ([.ref x, .int i1, .int i2] : List Value).toArray below meth c H locs 0 0 (MQ below (va_Qi (fun (r : Int32) (u : List Nat × hx_h) => (True) ∧ hx_T T_tb u.1 u.2 ∧ hx_S T_tb [] L h u.1 u.2) (hx_E T_tb (P_ty dA) (dC, dI) vwCl (hx_A L sz)) (hx_A L sz)) ([.ref x, .int i1, .int i2] : List Value).toArray s 0 0 (hx_A L sz)) (F0 m 54 ls []) := by
              intro n54
              induction n54 with
              | zero => intro iv54_4 iv54_5 iv54_6 H locs hL1 hl1 bliv54_4 buiv54_4 bliv54_5 buiv54_5 bliv54_6 buiv54_6  ls hn54; exfalso; omega
              | succ n54 ih54 =>
                intro iv54_4 iv54_5 iv54_6 H locs hL1 hl1 bliv54_4 buiv54_4 bliv54_5 buiv54_5 bliv54_6 buiv54_6  ls hn54 hW hT hM fx_2 fq_35 gq_35 pf_x_6 pf_x_13 pf_x_11 hl
                refine lv_iload hx hb dX9_other_54 (lv_at hl 0 rfl) ?_
                refine lv_aload_n hx hb dX9_other_56 rfl (lv_at hl 4 rfl) ?_
                refine hx_geti hx hb hts hC_9 hown hW hT (gx.S hM) tt_9 13 (by decide) rfl kw_377 ⟨rfl, rfl, rfl⟩ dX9_other_57 (fun x_36 ex_36 lx_36 ux_36 => ?_)
                have fx_36 := ex_36.symm
                refine hb_icmp_ge (zx := iv54_6.toInt) (zy := x_36.toInt) (tgt := 126) hx hb rfl rfl dX9_other_60 (by decide) (fun c_37 => ?_) (fun c_37 => ?_)
                · skip
                  refine lv_iload_n hx hb dX9_other_126 rfl (lv_at hl 6 rfl) ?_
                  refine lv_iconst (v := 5) hx hb dX9_other_127 (by decide) ?_
                  refine hb_icmp_le (zx := i2.toInt) (zy := 5) (tgt := 136) hx hb rfl (by decide) dX9_other_128 (by decide) (fun c_38 => ?_) (fun c_38 => ?_)
                  · skip
                    refine lv_iload hx hb dX9_other_136 (lv_at hl 2 rfl) ?_
                    exact hx_reti hx hb hr hlk hW ⟨trivial, hT, hM⟩ dX9_other_138
                  · skip
                    refine lv_iload hx hb dX9_other_131 (lv_at hl 1 rfl) ?_
                    refine lv_goto (tgt := 138) hx hb dX9_other_133 (by decide) ?_
                    exact hx_reti hx hb hr hlk hW ⟨trivial, hT, hM⟩ dX9_other_138
                · skip
                  refine lv_aload_n hx hb dX9_other_63 rfl (lv_at hl 4 rfl) ?_
                  refine lv_aload_n hx hb dX9_other_64 rfl (lv_at hl 4 rfl) ?_
                  refine hk_getr hx hb hts hC_9 hown hW (gx.S hM) tt_9 12 (by decide) rfl kw_376 ⟨rfl, rfl, rfl⟩ ((hM.o gx trivial rfl).2.trans f_x_12) dX9_other_65 ?_
                  refine lv_iload hx hb dX9_other_68 (lv_at hl 0 rfl) ?_
                  refine hx_aaldN hx hb hW hT (gqh.S hM) tt_46 (t1 := 2) rfl ⟨by omega, by omega⟩ (pf_x_13 _ (by rw [fx_36]; exact hx_tnI (by omega) (by omega))) dX9_other_70 (fun q_39 fq_39 gq_39 => ?_)
                  refine lv_aload_n hx hb dX9_other_71 rfl (lv_at hl 3 rfl) ?_
                  refine hx_goi (hx_runV (As := [.ref q_39, .ref q_35]) (rest := []) ⟨hx, hb, hml, hown, hts⟩ hW (gx.S hM) tt_9 (T := TX9) (N := 20) rfl (t_X9_judgement l dC dI dA hL1 hl1 H.size x q_39 q_35 hT (gx.S hM) gq_39 gq_35 qc (gqc.S hM) ((hM.o gx trivial rfl).2.trans f_x_10) pf_x_11) (cwV 2 hts (hx_gV kw_830 kw_827 kw_829 kw_28 kw_94) rfl rfl rfl (by decide +kernel) ⟨Nat.le_of_ble_eq_true rfl, Nat.le_of_ble_eq_true rfl⟩) rfl hl.1 rfl (Nat.le_of_ble_eq_true rfl) dX9_other_72 ⟨Nat.le_of_ble_eq_true rfl, Nat.le_of_ble_eq_true rfl⟩) hW (fun r_42 L_40 h_41 H locs p_43 hW => ?_)
                  obtain ⟨hr_44, hT, hs⟩ := p_43
                  replace hT : hx_T T_tb L_40 h_41 := hT
                  replace hs : hx_S T_tb [] hL1 hl1 L_40 h_41 := hs
                  replace fx_2 := (hs.o (gx.S hM) trivial rfl).1.trans fx_2
                  replace fq_35 := (hs.o (gx.S hM) trivial rfl).2.trans fq_35
                  replace fx_36 := (hs.o (gx.S hM) trivial rfl).1.trans fx_36
                  replace pf_x_6 : ∀ j : Nat, (j : Int) < (h_41.2.1 x 6).toInt → h_41.2.2 qa j ≠ none := by
                    intro j hj; rw [(hs.o (gx.S hM) trivial rfl).1] at hj; rw [(hs.a (gqa.S hM) rfl j).2]; exact pf_x_6 j hj
                  replace pf_x_13 : ∀ j : Nat, (j : Int) < (h_41.2.1 x 13).toInt → h_41.2.2 qh j ≠ none := by
                    intro j hj; rw [(hs.o (gx.S hM) trivial rfl).1] at hj; rw [(hs.a (gqh.S hM) rfl j).2]; exact pf_x_13 j hj
                  replace pf_x_11 : ∀ j : Nat, (j : Int) < (h_41.2.1 x 11).toInt → h_41.2.2 qc j ≠ none := by
                    intro j hj; rw [(hs.o (gx.S hM) trivial rfl).1] at hj; rw [(hs.a (gqc.S hM) rfl j).2]; exact pf_x_11 j hj
                  replace hM := hM.tr (hs.mono (by decide))
                  replace gq_35 := gq_35.S hs
                  replace gq_39 := gq_39.S hs
                  refine lv_istore (lv' := [(7, .int r_42), (6, .int iv54_6), (5, .int iv54_5), (4, .int iv54_4), (3, .ref q_35), (0, .ref x), (1, .int i1), (2, .int i2)]) hx hb dX9_other_75 hl (by decide) rfl (fun ls hl => ?_)
                  refine lv_iload hx hb dX9_other_77 (lv_at hl 3 rfl) ?_
                  refine lv_iload hx hb dX9_other_79 (lv_at hl 0 rfl) ?_
                  refine lv_iload_n hx hb dX9_other_81 rfl (lv_at hl 7 rfl) ?_
                  have jn_90 : ∀ (xj_45 : Int32) (ls : Array Slot), 0 ≤ xj_45.toInt → xj_45.toInt ≤ 1 → lv_has ls 8 [(7, .int r_42), (6, .int iv54_6), (5, .int iv54_5), (4, .int iv54_4), (3, .ref q_35), (0, .ref x), (1, .int i1), (2, .int i2)] → W p l e ({ frames := 3, cells := 0, slots := 0, locals := 71 }) s m ([.ref x, .int i1, .int i2] : List Value).toArray below meth c H locs 0 0 (MQ below (va_Qi (fun (r : Int32) (u : List Nat × hx_h) => (True) ∧ hx_T T_tb u.1 u.2 ∧ hx_S T_tb [] L h u.1 u.2) (hx_E T_tb (P_ty dA) (dC, dI) vwCl (hx_A L sz)) (hx_A L sz)) ([.ref x, .int i1, .int i2] : List Value).toArray s 0 0 (hx_A L sz)) (F0 m 90 ls [.int xj_45, .int iv54_4]) := by
                    intro xj_45 ls blxj_45 buxj_45 hl
                    refine lv_iadd hx hb dX9_other_90 ?_
                    have rg_46 := i32_r iv54_4
                    have rg_47 := i32_r xj_45
                    refine lv_topi (fun x_48 ex_48 => ?_)
                    refine lv_istore (lv' := [(4, .int x_48), (7, .int r_42), (6, .int iv54_6), (5, .int iv54_5), (3, .ref q_35), (0, .ref x), (1, .int i1), (2, .int i2)]) hx hb dX9_other_91 hl (by decide) rfl (fun ls hl => ?_)
                    refine lv_iload hx hb dX9_other_93 (lv_at hl 3 rfl) ?_
                    refine lv_aload_n hx hb dX9_other_95 rfl (lv_at hl 5 rfl) ?_
                    refine hk_getr hx hb hts hC_9 hown hW (gx.S hM) tt_9 12 (by decide) rfl kw_376 ⟨rfl, rfl, rfl⟩ ((hM.o gx trivial rfl).2.trans f_x_12) dX9_other_96 ?_
                    refine lv_iload hx hb dX9_other_99 (lv_at hl 2 rfl) ?_
                    refine hx_aaldN hx hb hW hT (gqh.S hM) tt_46 (t1 := 2) rfl ⟨by omega, by omega⟩ (pf_x_13 _ (by rw [fx_36]; exact hx_tnI (by omega) (by omega))) dX9_other_101 (fun q_49 fq_49 gq_49 => ?_)
                    refine lv_aload_n hx hb dX9_other_102 rfl (lv_at hl 4 rfl) ?_
                    refine lv_iload hx hb dX9_other_103 (lv_at hl 1 rfl) ?_
                    refine lv_iconst (v := 5) hx hb dX9_other_105 (by decide) ?_
                    have jn_114 : ∀ (xj_50 : Int32) (ls : Array Slot), 0 ≤ xj_50.toInt → xj_50.toInt ≤ 1 → lv_has ls 8 [(4, .int x_48), (7, .int r_42), (6, .int iv54_6), (5, .int iv54_5), (3, .ref q_35), (0, .ref x), (1, .int i1), (2, .int i2)] → W p l e ({ frames := 3, cells := 0, slots := 0, locals := 71 }) s m ([.ref x, .int i1, .int i2] : List Value).toArray below meth c H locs 0 0 (MQ below (va_Qi (fun (r : Int32) (u : List Nat × hx_h) => (True) ∧ hx_T T_tb u.1 u.2 ∧ hx_S T_tb [] L h u.1 u.2) (hx_E T_tb (P_ty dA) (dC, dI) vwCl (hx_A L sz)) (hx_A L sz)) ([.ref x, .int i1, .int i2] : List Value).toArray s 0 0 (hx_A L sz)) (F0 m 114 ls [.int xj_50, .ref q_35, .ref q_49, .int iv54_5]) := by
                      intro xj_50 ls blxj_50 buxj_50 hl
                      refine hx_goi (hx_runV (As := [.ref q_35, .int xj_50]) (rest := [.int iv54_5]) ⟨hx, hb, hml, hown, hts⟩ hW gq_49 tt_2 (T := TX2) (N := 19) rfl (t_X2_costsBy l dC dI dA L_40 h_41 H.size q_49 q_35 xj_50 hT gq_49 gq_35) (cwV 2 hts (hx_gV kw_849 kw_846 kw_847 kw_848 kw_110) rfl rfl rfl (by decide +kernel) ⟨Nat.le_of_ble_eq_true rfl, Nat.le_of_ble_eq_true rfl⟩) rfl hl.1 rfl (Nat.le_of_ble_eq_true rfl) dX9_other_114 ⟨Nat.le_of_ble_eq_true rfl, Nat.le_of_ble_eq_true rfl⟩) hW (fun r_53 L_51 h_52 H locs p_54 hW => ?_)
                      obtain ⟨hr_55, hT, hs⟩ := p_54
                      replace hT : hx_T T_tb L_51 h_52 := hT
                      replace hs : hx_S T_tb [] L_40 h_41 L_51 h_52 := hs
                      replace fx_2 := (hs.o (gx.S hM) trivial rfl).1.trans fx_2
                      replace fq_35 := (hs.o (gx.S hM) trivial rfl).2.trans fq_35
                      replace fx_36 := (hs.o (gx.S hM) trivial rfl).1.trans fx_36
                      replace pf_x_6 : ∀ j : Nat, (j : Int) < (h_52.2.1 x 6).toInt → h_52.2.2 qa j ≠ none := by
                        intro j hj; rw [(hs.o (gx.S hM) trivial rfl).1] at hj; rw [(hs.a (gqa.S hM) rfl j).2]; exact pf_x_6 j hj
                      replace pf_x_13 : ∀ j : Nat, (j : Int) < (h_52.2.1 x 13).toInt → h_52.2.2 qh j ≠ none := by
                        intro j hj; rw [(hs.o (gx.S hM) trivial rfl).1] at hj; rw [(hs.a (gqh.S hM) rfl j).2]; exact pf_x_13 j hj
                      replace pf_x_11 : ∀ j : Nat, (j : Int) < (h_52.2.1 x 11).toInt → h_52.2.2 qc j ≠ none := by
                        intro j hj; rw [(hs.o (gx.S hM) trivial rfl).1] at hj; rw [(hs.a (gqc.S hM) rfl j).2]; exact pf_x_11 j hj
                      replace hM := hM.tr (hs.mono (by decide))
                      replace gq_35 := gq_35.S hs
                      replace gq_39 := gq_39.S hs
                      replace gq_49 := gq_49.S hs
                      refine lv_iadd hx hb dX9_other_117 ?_
                      have rg_56 := i32_r iv54_5
                      have rg_57 := i32_r r_53
                      refine lv_topi (fun x_58 ex_58 => ?_)
                      refine lv_istore (lv' := [(5, .int x_58), (4, .int x_48), (7, .int r_42), (6, .int iv54_6), (3, .ref q_35), (0, .ref x), (1, .int i1), (2, .int i2)]) hx hb dX9_other_118 hl (by decide) rfl (fun ls hl => ?_)
                      obtain ⟨x_59, ex_59⟩ : ∃ y : Int32, y = iv54_6 + Int32.ofInt 1 := ⟨_, rfl⟩
                      have rg_60 := i32_r iv54_6
                      have zx_59 : x_59.toInt = iv54_6.toInt + (1) := by rw [ex_59]; exact i32_add rfl (by decide) (by omega) (by omega)
                      refine lv_iinc (v := x_59) (lv' := [(6, .int x_59), (5, .int x_58), (4, .int x_48), (7, .int r_42), (3, .ref q_35), (0, .ref x), (1, .int i1), (2, .int i2)]) hx hb dX9_other_120 hl (k := 3) rfl ex_59.symm (by decide) rfl (fun ls hl => ?_)
                      refine lv_goto (tgt := 54) hx hb dX9_other_123 (by decide) ?_
                      exact ih54 x_48 x_58 x_59 _ _ L_51 h_52 (i32_r _).1 (i32_r _).2 (i32_r _).1 (i32_r _).2 (by omega) (by omega)  ls (by omega) hW hT hM fx_2 fq_35 gq_35 pf_x_6 pf_x_13 pf_x_11 (lv_sub hl [0, 1, 2, 4, 5, 6, 7] rfl)
                    refine hb_icmp_ne (zx := r_42.toInt) (zy := 5) (tgt := 113) hx hb rfl (by decide) dX9_other_106 (by decide) (fun c_61 => ?_) (fun c_61 => ?_)
                    · skip
                      refine lv_iconst (v := 0) hx hb dX9_other_113 (by decide) ?_
                      exact jn_114 (0 : Int32) ls (by decide) (by decide) hl
                    · skip
                      refine lv_iconst (v := 1) hx hb dX9_other_109 (by decide) ?_
                      refine lv_goto (tgt := 114) hx hb dX9_other_110 (by decide) ?_
                      exact jn_114 (1 : Int32) ls (by decide) (by decide) hl
                  refine hb_icmp_ne (zx := r_42.toInt) (zy := i2.toInt) (tgt := 89) hx hb rfl rfl dX9_other_82 (by decide) (fun c_62 => ?_) (fun c_62 => ?_)
                  · skip
                    refine lv_iconst (v := 0) hx hb dX9_other_89 (by decide) ?_
                    exact jn_90 (0 : Int32) ls (by decide) (by decide) hl
                  · skip
                    refine lv_iconst (v := 1) hx hb dX9_other_85 (by decide) ?_
                    refine lv_goto (tgt := 90) hx hb dX9_other_86 (by decide) ?_
                    exact jn_90 (1 : Int32) ls (by decide) (by decide) hl
            have zk_0 : (0 : Int32).toInt = 0 := by decide
            have zk_0 : (0 : Int32).toInt = 0 := by decide
            have zk_0 : (0 : Int32).toInt = 0 := by decide
            exact loop54 101 (0 : Int32) (0 : Int32) (0 : Int32) _ _ L h (by decide) (by decide) (by decide) (by decide) (by decide) (by decide)  ls (by omega) hW hT hM fx_2 fq_35 gq_35 pf_x_6 pf_x_13 pf_x_11 hl
        · skip
          refine lv_iconst (v := -1) hx hb dX9_other_24 (by decide) ?_
          exact hx_reti hx hb hr hlk hW ⟨trivial, hT, hM⟩ dX9_other_25

def wLX9_person_0 : List Nat := [42, 180, 0, 125, 16, 40, 162, 0, 39, 27, 17, 138, 208, 17, 31, 63, 184, 0, 128, 153, 0, 26, 28, 29, 21, 4, 21, 5, 184, 0, 132, 153, 0, 14, 21, 6, 2, 16, 19, 184, 0, 128, 154, 0, 5, 2, 172, 187, 0, 33, 89, 42, 180, 0, 125, 27, 21, 6, 183, 0, 136, 58, 7, 25]
def wLX9_person_1 : List Nat := [7, 28, 29, 21, 4, 21, 5, 182, 0, 139, 42, 180, 0, 35, 42, 180, 0, 125, 25, 7, 83, 42, 89, 180, 0, 125, 4, 96, 181, 0, 125, 25, 7, 180, 0, 143, 172]
theorem wX9_person_0 : (cX9_person.data.toList.map UInt8.toNat).drop 0 = wLX9_person_0 ++ (wLX9_person_1 ++ ([])) := by decide +kernel
theorem wX9_person_1 : (cX9_person.data.toList.map UInt8.toNat).drop 64 = wLX9_person_1 ++ ([]) := hz_wn wX9_person_0 rfl
theorem dX9_person_0 : decode cX9_person 0 = .ok (.aload_n 0, 1) := dq_42 (hz_wg wX9_person_0 (j := 0) (n := 42) rfl)
theorem dX9_person_1 : decode cX9_person 1 = .ok (.getfield 125, 3) := dq_180 (hz_wg wX9_person_0 (j := 1) (n := 180) rfl) (hz_wg wX9_person_0 (j := 2) (n := 0) rfl) (hz_wg wX9_person_0 (j := 3) (n := 125) rfl) rfl
theorem dX9_person_4 : decode cX9_person 4 = .ok (.bipush 40, 2) := dq_16 (hz_wg wX9_person_0 (j := 4) (n := 16) rfl) (hz_wg wX9_person_0 (j := 5) (n := 40) rfl) (by decide)
theorem dX9_person_6 : decode cX9_person 6 = .ok (.if_icmp .ge 39, 3) := dq_162 (hz_wg wX9_person_0 (j := 6) (n := 162) rfl) (hz_wg wX9_person_0 (j := 7) (n := 0) rfl) (hz_wg wX9_person_0 (j := 8) (n := 39) rfl) (by decide)
theorem dX9_person_9 : decode cX9_person 9 = .ok (.iload_n 1, 1) := dq_27 (hz_wg wX9_person_0 (j := 9) (n := 27) rfl)
theorem dX9_person_10 : decode cX9_person 10 = .ok (.sipush (-30000), 3) := dq_17 (hz_wg wX9_person_0 (j := 10) (n := 17) rfl) (hz_wg wX9_person_0 (j := 11) (n := 138) rfl) (hz_wg wX9_person_0 (j := 12) (n := 208) rfl) (by decide)
theorem dX9_person_13 : decode cX9_person 13 = .ok (.sipush 7999, 3) := dq_17 (hz_wg wX9_person_0 (j := 13) (n := 17) rfl) (hz_wg wX9_person_0 (j := 14) (n := 31) rfl) (hz_wg wX9_person_0 (j := 15) (n := 63) rfl) (by decide)
theorem dX9_person_16 : decode cX9_person 16 = .ok (.invokestatic 128, 3) := dq_184 (hz_wg wX9_person_0 (j := 16) (n := 184) rfl) (hz_wg wX9_person_0 (j := 17) (n := 0) rfl) (hz_wg wX9_person_0 (j := 18) (n := 128) rfl) rfl
theorem dX9_person_19 : decode cX9_person 19 = .ok (.ifCond .eq 26, 3) := dq_153 (hz_wg wX9_person_0 (j := 19) (n := 153) rfl) (hz_wg wX9_person_0 (j := 20) (n := 0) rfl) (hz_wg wX9_person_0 (j := 21) (n := 26) rfl) (by decide)
theorem dX9_person_22 : decode cX9_person 22 = .ok (.iload_n 2, 1) := dq_28 (hz_wg wX9_person_0 (j := 22) (n := 28) rfl)
theorem dX9_person_23 : decode cX9_person 23 = .ok (.iload_n 3, 1) := dq_29 (hz_wg wX9_person_0 (j := 23) (n := 29) rfl)
theorem dX9_person_24 : decode cX9_person 24 = .ok (.iload 4, 2) := dq_21 (hz_wg wX9_person_0 (j := 24) (n := 21) rfl) (hz_wg wX9_person_0 (j := 25) (n := 4) rfl)
theorem dX9_person_26 : decode cX9_person 26 = .ok (.iload 5, 2) := dq_21 (hz_wg wX9_person_0 (j := 26) (n := 21) rfl) (hz_wg wX9_person_0 (j := 27) (n := 5) rfl)
theorem dX9_person_28 : decode cX9_person 28 = .ok (.invokestatic 132, 3) := dq_184 (hz_wg wX9_person_0 (j := 28) (n := 184) rfl) (hz_wg wX9_person_0 (j := 29) (n := 0) rfl) (hz_wg wX9_person_0 (j := 30) (n := 132) rfl) rfl
theorem dX9_person_31 : decode cX9_person 31 = .ok (.ifCond .eq 14, 3) := dq_153 (hz_wg wX9_person_0 (j := 31) (n := 153) rfl) (hz_wg wX9_person_0 (j := 32) (n := 0) rfl) (hz_wg wX9_person_0 (j := 33) (n := 14) rfl) (by decide)
theorem dX9_person_34 : decode cX9_person 34 = .ok (.iload 6, 2) := dq_21 (hz_wg wX9_person_0 (j := 34) (n := 21) rfl) (hz_wg wX9_person_0 (j := 35) (n := 6) rfl)
theorem dX9_person_36 : decode cX9_person 36 = .ok (.iconst (-1), 1) := dq_2 (hz_wg wX9_person_0 (j := 36) (n := 2) rfl)
theorem dX9_person_37 : decode cX9_person 37 = .ok (.bipush 19, 2) := dq_16 (hz_wg wX9_person_0 (j := 37) (n := 16) rfl) (hz_wg wX9_person_0 (j := 38) (n := 19) rfl) (by decide)
theorem dX9_person_39 : decode cX9_person 39 = .ok (.invokestatic 128, 3) := dq_184 (hz_wg wX9_person_0 (j := 39) (n := 184) rfl) (hz_wg wX9_person_0 (j := 40) (n := 0) rfl) (hz_wg wX9_person_0 (j := 41) (n := 128) rfl) rfl
theorem dX9_person_42 : decode cX9_person 42 = .ok (.ifCond .ne 5, 3) := dq_154 (hz_wg wX9_person_0 (j := 42) (n := 154) rfl) (hz_wg wX9_person_0 (j := 43) (n := 0) rfl) (hz_wg wX9_person_0 (j := 44) (n := 5) rfl) (by decide)
theorem dX9_person_45 : decode cX9_person 45 = .ok (.iconst (-1), 1) := dq_2 (hz_wg wX9_person_0 (j := 45) (n := 2) rfl)
theorem dX9_person_46 : decode cX9_person 46 = .ok (.ireturn, 1) := dq_172 (hz_wg wX9_person_0 (j := 46) (n := 172) rfl)
theorem dX9_person_47 : decode cX9_person 47 = .ok (.new 33, 3) := dq_187 (hz_wg wX9_person_0 (j := 47) (n := 187) rfl) (hz_wg wX9_person_0 (j := 48) (n := 0) rfl) (hz_wg wX9_person_0 (j := 49) (n := 33) rfl) rfl
theorem dX9_person_50 : decode cX9_person 50 = .ok (.dup, 1) := dq_89 (hz_wg wX9_person_0 (j := 50) (n := 89) rfl)
theorem dX9_person_51 : decode cX9_person 51 = .ok (.aload_n 0, 1) := dq_42 (hz_wg wX9_person_0 (j := 51) (n := 42) rfl)
theorem dX9_person_52 : decode cX9_person 52 = .ok (.getfield 125, 3) := dq_180 (hz_wg wX9_person_0 (j := 52) (n := 180) rfl) (hz_wg wX9_person_0 (j := 53) (n := 0) rfl) (hz_wg wX9_person_0 (j := 54) (n := 125) rfl) rfl
theorem dX9_person_55 : decode cX9_person 55 = .ok (.iload_n 1, 1) := dq_27 (hz_wg wX9_person_0 (j := 55) (n := 27) rfl)
theorem dX9_person_56 : decode cX9_person 56 = .ok (.iload 6, 2) := dq_21 (hz_wg wX9_person_0 (j := 56) (n := 21) rfl) (hz_wg wX9_person_0 (j := 57) (n := 6) rfl)
theorem dX9_person_58 : decode cX9_person 58 = .ok (.invokespecial 136, 3) := dq_183 (hz_wg wX9_person_0 (j := 58) (n := 183) rfl) (hz_wg wX9_person_0 (j := 59) (n := 0) rfl) (hz_wg wX9_person_0 (j := 60) (n := 136) rfl) rfl
theorem dX9_person_61 : decode cX9_person 61 = .ok (.astore 7, 2) := dq_58 (hz_wg wX9_person_0 (j := 61) (n := 58) rfl) (hz_wg wX9_person_0 (j := 62) (n := 7) rfl)
theorem dX9_person_63 : decode cX9_person 63 = .ok (.aload 7, 2) := dq_25 (hz_wg wX9_person_0 (j := 63) (n := 25) rfl) (hz_wg wX9_person_1 (j := 0) (n := 7) rfl)
theorem dX9_person_65 : decode cX9_person 65 = .ok (.iload_n 2, 1) := dq_28 (hz_wg wX9_person_1 (j := 1) (n := 28) rfl)
theorem dX9_person_66 : decode cX9_person 66 = .ok (.iload_n 3, 1) := dq_29 (hz_wg wX9_person_1 (j := 2) (n := 29) rfl)
theorem dX9_person_67 : decode cX9_person 67 = .ok (.iload 4, 2) := dq_21 (hz_wg wX9_person_1 (j := 3) (n := 21) rfl) (hz_wg wX9_person_1 (j := 4) (n := 4) rfl)
theorem dX9_person_69 : decode cX9_person 69 = .ok (.iload 5, 2) := dq_21 (hz_wg wX9_person_1 (j := 5) (n := 21) rfl) (hz_wg wX9_person_1 (j := 6) (n := 5) rfl)
theorem dX9_person_71 : decode cX9_person 71 = .ok (.invokevirtual 139, 3) := dq_182 (hz_wg wX9_person_1 (j := 7) (n := 182) rfl) (hz_wg wX9_person_1 (j := 8) (n := 0) rfl) (hz_wg wX9_person_1 (j := 9) (n := 139) rfl) rfl
theorem dX9_person_74 : decode cX9_person 74 = .ok (.aload_n 0, 1) := dq_42 (hz_wg wX9_person_1 (j := 10) (n := 42) rfl)
theorem dX9_person_75 : decode cX9_person 75 = .ok (.getfield 35, 3) := dq_180 (hz_wg wX9_person_1 (j := 11) (n := 180) rfl) (hz_wg wX9_person_1 (j := 12) (n := 0) rfl) (hz_wg wX9_person_1 (j := 13) (n := 35) rfl) rfl
theorem dX9_person_78 : decode cX9_person 78 = .ok (.aload_n 0, 1) := dq_42 (hz_wg wX9_person_1 (j := 14) (n := 42) rfl)
theorem dX9_person_79 : decode cX9_person 79 = .ok (.getfield 125, 3) := dq_180 (hz_wg wX9_person_1 (j := 15) (n := 180) rfl) (hz_wg wX9_person_1 (j := 16) (n := 0) rfl) (hz_wg wX9_person_1 (j := 17) (n := 125) rfl) rfl
theorem dX9_person_82 : decode cX9_person 82 = .ok (.aload 7, 2) := dq_25 (hz_wg wX9_person_1 (j := 18) (n := 25) rfl) (hz_wg wX9_person_1 (j := 19) (n := 7) rfl)
theorem dX9_person_84 : decode cX9_person 84 = .ok (.aastore, 1) := dq_83 (hz_wg wX9_person_1 (j := 20) (n := 83) rfl)
theorem dX9_person_85 : decode cX9_person 85 = .ok (.aload_n 0, 1) := dq_42 (hz_wg wX9_person_1 (j := 21) (n := 42) rfl)
theorem dX9_person_86 : decode cX9_person 86 = .ok (.dup, 1) := dq_89 (hz_wg wX9_person_1 (j := 22) (n := 89) rfl)
theorem dX9_person_87 : decode cX9_person 87 = .ok (.getfield 125, 3) := dq_180 (hz_wg wX9_person_1 (j := 23) (n := 180) rfl) (hz_wg wX9_person_1 (j := 24) (n := 0) rfl) (hz_wg wX9_person_1 (j := 25) (n := 125) rfl) rfl
theorem dX9_person_90 : decode cX9_person 90 = .ok (.iconst 1, 1) := dq_4 (hz_wg wX9_person_1 (j := 26) (n := 4) rfl)
theorem dX9_person_91 : decode cX9_person 91 = .ok (.iadd, 1) := dq_96 (hz_wg wX9_person_1 (j := 27) (n := 96) rfl)
theorem dX9_person_92 : decode cX9_person 92 = .ok (.putfield 125, 3) := dq_181 (hz_wg wX9_person_1 (j := 28) (n := 181) rfl) (hz_wg wX9_person_1 (j := 29) (n := 0) rfl) (hz_wg wX9_person_1 (j := 30) (n := 125) rfl) rfl
theorem dX9_person_95 : decode cX9_person 95 = .ok (.aload 7, 2) := dq_25 (hz_wg wX9_person_1 (j := 31) (n := 25) rfl) (hz_wg wX9_person_1 (j := 32) (n := 7) rfl)
theorem dX9_person_97 : decode cX9_person 97 = .ok (.getfield 143, 3) := dq_180 (hz_wg wX9_person_1 (j := 33) (n := 180) rfl) (hz_wg wX9_person_1 (j := 34) (n := 0) rfl) (hz_wg wX9_person_1 (j := 35) (n := 143) rfl) rfl
theorem dX9_person_100 : decode cX9_person 100 = .ok (.ireturn, 1) := dq_172 (hz_wg wX9_person_1 (j := 36) (n := 172) rfl)