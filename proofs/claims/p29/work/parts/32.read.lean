def wLX6_readTerm_0 : List Nat := [42, 182, 0, 35, 42, 180, 0, 19, 60, 42, 18, 116, 182, 0, 51, 61, 28, 156, 0, 10, 42, 27, 3, 182, 0, 45, 172, 42, 180, 0, 28, 16, 20, 161, 0, 10, 42, 27, 7, 182, 0, 45, 172, 42, 89, 180, 0, 28, 4, 96, 181, 0, 28, 42, 182, 0, 118, 62, 29, 154, 0, 13, 42, 42]
def wLX6_readTerm_1 : List Nat := [180, 0, 19, 3, 182, 0, 45, 172, 42, 182, 0, 35, 42, 180, 0, 19, 60, 42, 42, 180, 0, 19, 182, 0, 75, 154, 0, 7, 4, 167, 0, 4, 3, 54, 4, 21, 4, 153, 0, 12, 42, 18, 116, 182, 0, 51, 167, 0, 7, 42, 182, 0, 78, 54, 5, 21, 5, 156, 0, 19, 42, 27, 21, 4]
def wLX6_readTerm_2 : List Nat := [153, 0, 7, 3, 167, 0, 4, 4, 182, 0, 45, 172, 42, 180, 0, 31, 28, 29, 21, 4, 21, 5, 184, 0, 121, 182, 0, 95, 4, 172]
theorem wX6_readTerm_0 : (cX6_readTerm.data.toList.map UInt8.toNat).drop 0 = wLX6_readTerm_0 ++ (wLX6_readTerm_1 ++ (wLX6_readTerm_2 ++ ([]))) := by decide +kernel
theorem wX6_readTerm_1 : (cX6_readTerm.data.toList.map UInt8.toNat).drop 64 = wLX6_readTerm_1 ++ (wLX6_readTerm_2 ++ ([])) := hz_wn wX6_readTerm_0 rfl
theorem wX6_readTerm_2 : (cX6_readTerm.data.toList.map UInt8.toNat).drop 128 = wLX6_readTerm_2 ++ ([]) := hz_wn wX6_readTerm_1 rfl
theorem dX6_readTerm_0 : decode cX6_readTerm 0 = .ok (.aload_n 0, 1) := dq_42 (hz_wg wX6_readTerm_0 (j := 0) (n := 42) rfl)
theorem dX6_readTerm_1 : decode cX6_readTerm 1 = .ok (.invokevirtual 35, 3) := dq_182 (hz_wg wX6_readTerm_0 (j := 1) (n := 182) rfl) (hz_wg wX6_readTerm_0 (j := 2) (n := 0) rfl) (hz_wg wX6_readTerm_0 (j := 3) (n := 35) rfl) rfl
theorem dX6_readTerm_4 : decode cX6_readTerm 4 = .ok (.aload_n 0, 1) := dq_42 (hz_wg wX6_readTerm_0 (j := 4) (n := 42) rfl)
theorem dX6_readTerm_5 : decode cX6_readTerm 5 = .ok (.getfield 19, 3) := dq_180 (hz_wg wX6_readTerm_0 (j := 5) (n := 180) rfl) (hz_wg wX6_readTerm_0 (j := 6) (n := 0) rfl) (hz_wg wX6_readTerm_0 (j := 7) (n := 19) rfl) rfl
theorem dX6_readTerm_8 : decode cX6_readTerm 8 = .ok (.istore_n 1, 1) := dq_60 (hz_wg wX6_readTerm_0 (j := 8) (n := 60) rfl)
theorem dX6_readTerm_9 : decode cX6_readTerm 9 = .ok (.aload_n 0, 1) := dq_42 (hz_wg wX6_readTerm_0 (j := 9) (n := 42) rfl)
theorem dX6_readTerm_10 : decode cX6_readTerm 10 = .ok (.ldc 116, 2) := dq_18 (hz_wg wX6_readTerm_0 (j := 10) (n := 18) rfl) (hz_wg wX6_readTerm_0 (j := 11) (n := 116) rfl)
theorem dX6_readTerm_12 : decode cX6_readTerm 12 = .ok (.invokevirtual 51, 3) := dq_182 (hz_wg wX6_readTerm_0 (j := 12) (n := 182) rfl) (hz_wg wX6_readTerm_0 (j := 13) (n := 0) rfl) (hz_wg wX6_readTerm_0 (j := 14) (n := 51) rfl) rfl
theorem dX6_readTerm_15 : decode cX6_readTerm 15 = .ok (.istore_n 2, 1) := dq_61 (hz_wg wX6_readTerm_0 (j := 15) (n := 61) rfl)
theorem dX6_readTerm_16 : decode cX6_readTerm 16 = .ok (.iload_n 2, 1) := dq_28 (hz_wg wX6_readTerm_0 (j := 16) (n := 28) rfl)
theorem dX6_readTerm_17 : decode cX6_readTerm 17 = .ok (.ifCond .ge 10, 3) := dq_156 (hz_wg wX6_readTerm_0 (j := 17) (n := 156) rfl) (hz_wg wX6_readTerm_0 (j := 18) (n := 0) rfl) (hz_wg wX6_readTerm_0 (j := 19) (n := 10) rfl) (by decide)
theorem dX6_readTerm_20 : decode cX6_readTerm 20 = .ok (.aload_n 0, 1) := dq_42 (hz_wg wX6_readTerm_0 (j := 20) (n := 42) rfl)
theorem dX6_readTerm_21 : decode cX6_readTerm 21 = .ok (.iload_n 1, 1) := dq_27 (hz_wg wX6_readTerm_0 (j := 21) (n := 27) rfl)
theorem dX6_readTerm_22 : decode cX6_readTerm 22 = .ok (.iconst 0, 1) := dq_3 (hz_wg wX6_readTerm_0 (j := 22) (n := 3) rfl)
theorem dX6_readTerm_23 : decode cX6_readTerm 23 = .ok (.invokevirtual 45, 3) := dq_182 (hz_wg wX6_readTerm_0 (j := 23) (n := 182) rfl) (hz_wg wX6_readTerm_0 (j := 24) (n := 0) rfl) (hz_wg wX6_readTerm_0 (j := 25) (n := 45) rfl) rfl
theorem dX6_readTerm_26 : decode cX6_readTerm 26 = .ok (.ireturn, 1) := dq_172 (hz_wg wX6_readTerm_0 (j := 26) (n := 172) rfl)
theorem dX6_readTerm_27 : decode cX6_readTerm 27 = .ok (.aload_n 0, 1) := dq_42 (hz_wg wX6_readTerm_0 (j := 27) (n := 42) rfl)
theorem dX6_readTerm_28 : decode cX6_readTerm 28 = .ok (.getfield 28, 3) := dq_180 (hz_wg wX6_readTerm_0 (j := 28) (n := 180) rfl) (hz_wg wX6_readTerm_0 (j := 29) (n := 0) rfl) (hz_wg wX6_readTerm_0 (j := 30) (n := 28) rfl) rfl
theorem dX6_readTerm_31 : decode cX6_readTerm 31 = .ok (.bipush 20, 2) := dq_16 (hz_wg wX6_readTerm_0 (j := 31) (n := 16) rfl) (hz_wg wX6_readTerm_0 (j := 32) (n := 20) rfl) (by decide)
theorem dX6_readTerm_33 : decode cX6_readTerm 33 = .ok (.if_icmp .lt 10, 3) := dq_161 (hz_wg wX6_readTerm_0 (j := 33) (n := 161) rfl) (hz_wg wX6_readTerm_0 (j := 34) (n := 0) rfl) (hz_wg wX6_readTerm_0 (j := 35) (n := 10) rfl) (by decide)
theorem dX6_readTerm_36 : decode cX6_readTerm 36 = .ok (.aload_n 0, 1) := dq_42 (hz_wg wX6_readTerm_0 (j := 36) (n := 42) rfl)
theorem dX6_readTerm_37 : decode cX6_readTerm 37 = .ok (.iload_n 1, 1) := dq_27 (hz_wg wX6_readTerm_0 (j := 37) (n := 27) rfl)
theorem dX6_readTerm_38 : decode cX6_readTerm 38 = .ok (.iconst 4, 1) := dq_7 (hz_wg wX6_readTerm_0 (j := 38) (n := 7) rfl)
theorem dX6_readTerm_39 : decode cX6_readTerm 39 = .ok (.invokevirtual 45, 3) := dq_182 (hz_wg wX6_readTerm_0 (j := 39) (n := 182) rfl) (hz_wg wX6_readTerm_0 (j := 40) (n := 0) rfl) (hz_wg wX6_readTerm_0 (j := 41) (n := 45) rfl) rfl
theorem dX6_readTerm_42 : decode cX6_readTerm 42 = .ok (.ireturn, 1) := dq_172 (hz_wg wX6_readTerm_0 (j := 42) (n := 172) rfl)
theorem dX6_readTerm_43 : decode cX6_readTerm 43 = .ok (.aload_n 0, 1) := dq_42 (hz_wg wX6_readTerm_0 (j := 43) (n := 42) rfl)
theorem dX6_readTerm_44 : decode cX6_readTerm 44 = .ok (.dup, 1) := dq_89 (hz_wg wX6_readTerm_0 (j := 44) (n := 89) rfl)
theorem dX6_readTerm_45 : decode cX6_readTerm 45 = .ok (.getfield 28, 3) := dq_180 (hz_wg wX6_readTerm_0 (j := 45) (n := 180) rfl) (hz_wg wX6_readTerm_0 (j := 46) (n := 0) rfl) (hz_wg wX6_readTerm_0 (j := 47) (n := 28) rfl) rfl
theorem dX6_readTerm_48 : decode cX6_readTerm 48 = .ok (.iconst 1, 1) := dq_4 (hz_wg wX6_readTerm_0 (j := 48) (n := 4) rfl)
theorem dX6_readTerm_49 : decode cX6_readTerm 49 = .ok (.iadd, 1) := dq_96 (hz_wg wX6_readTerm_0 (j := 49) (n := 96) rfl)
theorem dX6_readTerm_50 : decode cX6_readTerm 50 = .ok (.putfield 28, 3) := dq_181 (hz_wg wX6_readTerm_0 (j := 50) (n := 181) rfl) (hz_wg wX6_readTerm_0 (j := 51) (n := 0) rfl) (hz_wg wX6_readTerm_0 (j := 52) (n := 28) rfl) rfl
theorem dX6_readTerm_53 : decode cX6_readTerm 53 = .ok (.aload_n 0, 1) := dq_42 (hz_wg wX6_readTerm_0 (j := 53) (n := 42) rfl)
theorem dX6_readTerm_54 : decode cX6_readTerm 54 = .ok (.invokevirtual 118, 3) := dq_182 (hz_wg wX6_readTerm_0 (j := 54) (n := 182) rfl) (hz_wg wX6_readTerm_0 (j := 55) (n := 0) rfl) (hz_wg wX6_readTerm_0 (j := 56) (n := 118) rfl) rfl
theorem dX6_readTerm_57 : decode cX6_readTerm 57 = .ok (.istore_n 3, 1) := dq_62 (hz_wg wX6_readTerm_0 (j := 57) (n := 62) rfl)
theorem dX6_readTerm_58 : decode cX6_readTerm 58 = .ok (.iload_n 3, 1) := dq_29 (hz_wg wX6_readTerm_0 (j := 58) (n := 29) rfl)
theorem dX6_readTerm_59 : decode cX6_readTerm 59 = .ok (.ifCond .ne 13, 3) := dq_154 (hz_wg wX6_readTerm_0 (j := 59) (n := 154) rfl) (hz_wg wX6_readTerm_0 (j := 60) (n := 0) rfl) (hz_wg wX6_readTerm_0 (j := 61) (n := 13) rfl) (by decide)
theorem dX6_readTerm_62 : decode cX6_readTerm 62 = .ok (.aload_n 0, 1) := dq_42 (hz_wg wX6_readTerm_0 (j := 62) (n := 42) rfl)
theorem dX6_readTerm_63 : decode cX6_readTerm 63 = .ok (.aload_n 0, 1) := dq_42 (hz_wg wX6_readTerm_0 (j := 63) (n := 42) rfl)
theorem dX6_readTerm_64 : decode cX6_readTerm 64 = .ok (.getfield 19, 3) := dq_180 (hz_wg wX6_readTerm_1 (j := 0) (n := 180) rfl) (hz_wg wX6_readTerm_1 (j := 1) (n := 0) rfl) (hz_wg wX6_readTerm_1 (j := 2) (n := 19) rfl) rfl
theorem dX6_readTerm_67 : decode cX6_readTerm 67 = .ok (.iconst 0, 1) := dq_3 (hz_wg wX6_readTerm_1 (j := 3) (n := 3) rfl)
theorem dX6_readTerm_68 : decode cX6_readTerm 68 = .ok (.invokevirtual 45, 3) := dq_182 (hz_wg wX6_readTerm_1 (j := 4) (n := 182) rfl) (hz_wg wX6_readTerm_1 (j := 5) (n := 0) rfl) (hz_wg wX6_readTerm_1 (j := 6) (n := 45) rfl) rfl
theorem dX6_readTerm_71 : decode cX6_readTerm 71 = .ok (.ireturn, 1) := dq_172 (hz_wg wX6_readTerm_1 (j := 7) (n := 172) rfl)
theorem dX6_readTerm_72 : decode cX6_readTerm 72 = .ok (.aload_n 0, 1) := dq_42 (hz_wg wX6_readTerm_1 (j := 8) (n := 42) rfl)
theorem dX6_readTerm_73 : decode cX6_readTerm 73 = .ok (.invokevirtual 35, 3) := dq_182 (hz_wg wX6_readTerm_1 (j := 9) (n := 182) rfl) (hz_wg wX6_readTerm_1 (j := 10) (n := 0) rfl) (hz_wg wX6_readTerm_1 (j := 11) (n := 35) rfl) rfl
theorem dX6_readTerm_76 : decode cX6_readTerm 76 = .ok (.aload_n 0, 1) := dq_42 (hz_wg wX6_readTerm_1 (j := 12) (n := 42) rfl)
theorem dX6_readTerm_77 : decode cX6_readTerm 77 = .ok (.getfield 19, 3) := dq_180 (hz_wg wX6_readTerm_1 (j := 13) (n := 180) rfl) (hz_wg wX6_readTerm_1 (j := 14) (n := 0) rfl) (hz_wg wX6_readTerm_1 (j := 15) (n := 19) rfl) rfl
theorem dX6_readTerm_80 : decode cX6_readTerm 80 = .ok (.istore_n 1, 1) := dq_60 (hz_wg wX6_readTerm_1 (j := 16) (n := 60) rfl)
theorem dX6_readTerm_81 : decode cX6_readTerm 81 = .ok (.aload_n 0, 1) := dq_42 (hz_wg wX6_readTerm_1 (j := 17) (n := 42) rfl)
theorem dX6_readTerm_82 : decode cX6_readTerm 82 = .ok (.aload_n 0, 1) := dq_42 (hz_wg wX6_readTerm_1 (j := 18) (n := 42) rfl)
theorem dX6_readTerm_83 : decode cX6_readTerm 83 = .ok (.getfield 19, 3) := dq_180 (hz_wg wX6_readTerm_1 (j := 19) (n := 180) rfl) (hz_wg wX6_readTerm_1 (j := 20) (n := 0) rfl) (hz_wg wX6_readTerm_1 (j := 21) (n := 19) rfl) rfl
theorem dX6_readTerm_86 : decode cX6_readTerm 86 = .ok (.invokevirtual 75, 3) := dq_182 (hz_wg wX6_readTerm_1 (j := 22) (n := 182) rfl) (hz_wg wX6_readTerm_1 (j := 23) (n := 0) rfl) (hz_wg wX6_readTerm_1 (j := 24) (n := 75) rfl) rfl
theorem dX6_readTerm_89 : decode cX6_readTerm 89 = .ok (.ifCond .ne 7, 3) := dq_154 (hz_wg wX6_readTerm_1 (j := 25) (n := 154) rfl) (hz_wg wX6_readTerm_1 (j := 26) (n := 0) rfl) (hz_wg wX6_readTerm_1 (j := 27) (n := 7) rfl) (by decide)
theorem dX6_readTerm_92 : decode cX6_readTerm 92 = .ok (.iconst 1, 1) := dq_4 (hz_wg wX6_readTerm_1 (j := 28) (n := 4) rfl)
theorem dX6_readTerm_93 : decode cX6_readTerm 93 = .ok (.goto 4, 3) := dq_167 (hz_wg wX6_readTerm_1 (j := 29) (n := 167) rfl) (hz_wg wX6_readTerm_1 (j := 30) (n := 0) rfl) (hz_wg wX6_readTerm_1 (j := 31) (n := 4) rfl) (by decide)
theorem dX6_readTerm_96 : decode cX6_readTerm 96 = .ok (.iconst 0, 1) := dq_3 (hz_wg wX6_readTerm_1 (j := 32) (n := 3) rfl)
theorem dX6_readTerm_97 : decode cX6_readTerm 97 = .ok (.istore 4, 2) := dq_54 (hz_wg wX6_readTerm_1 (j := 33) (n := 54) rfl) (hz_wg wX6_readTerm_1 (j := 34) (n := 4) rfl)
theorem dX6_readTerm_99 : decode cX6_readTerm 99 = .ok (.iload 4, 2) := dq_21 (hz_wg wX6_readTerm_1 (j := 35) (n := 21) rfl) (hz_wg wX6_readTerm_1 (j := 36) (n := 4) rfl)
theorem dX6_readTerm_101 : decode cX6_readTerm 101 = .ok (.ifCond .eq 12, 3) := dq_153 (hz_wg wX6_readTerm_1 (j := 37) (n := 153) rfl) (hz_wg wX6_readTerm_1 (j := 38) (n := 0) rfl) (hz_wg wX6_readTerm_1 (j := 39) (n := 12) rfl) (by decide)
theorem dX6_readTerm_104 : decode cX6_readTerm 104 = .ok (.aload_n 0, 1) := dq_42 (hz_wg wX6_readTerm_1 (j := 40) (n := 42) rfl)
theorem dX6_readTerm_105 : decode cX6_readTerm 105 = .ok (.ldc 116, 2) := dq_18 (hz_wg wX6_readTerm_1 (j := 41) (n := 18) rfl) (hz_wg wX6_readTerm_1 (j := 42) (n := 116) rfl)
theorem dX6_readTerm_107 : decode cX6_readTerm 107 = .ok (.invokevirtual 51, 3) := dq_182 (hz_wg wX6_readTerm_1 (j := 43) (n := 182) rfl) (hz_wg wX6_readTerm_1 (j := 44) (n := 0) rfl) (hz_wg wX6_readTerm_1 (j := 45) (n := 51) rfl) rfl
theorem dX6_readTerm_110 : decode cX6_readTerm 110 = .ok (.goto 7, 3) := dq_167 (hz_wg wX6_readTerm_1 (j := 46) (n := 167) rfl) (hz_wg wX6_readTerm_1 (j := 47) (n := 0) rfl) (hz_wg wX6_readTerm_1 (j := 48) (n := 7) rfl) (by decide)
theorem dX6_readTerm_113 : decode cX6_readTerm 113 = .ok (.aload_n 0, 1) := dq_42 (hz_wg wX6_readTerm_1 (j := 49) (n := 42) rfl)
theorem dX6_readTerm_114 : decode cX6_readTerm 114 = .ok (.invokevirtual 78, 3) := dq_182 (hz_wg wX6_readTerm_1 (j := 50) (n := 182) rfl) (hz_wg wX6_readTerm_1 (j := 51) (n := 0) rfl) (hz_wg wX6_readTerm_1 (j := 52) (n := 78) rfl) rfl
theorem dX6_readTerm_117 : decode cX6_readTerm 117 = .ok (.istore 5, 2) := dq_54 (hz_wg wX6_readTerm_1 (j := 53) (n := 54) rfl) (hz_wg wX6_readTerm_1 (j := 54) (n := 5) rfl)
theorem dX6_readTerm_119 : decode cX6_readTerm 119 = .ok (.iload 5, 2) := dq_21 (hz_wg wX6_readTerm_1 (j := 55) (n := 21) rfl) (hz_wg wX6_readTerm_1 (j := 56) (n := 5) rfl)
theorem dX6_readTerm_121 : decode cX6_readTerm 121 = .ok (.ifCond .ge 19, 3) := dq_156 (hz_wg wX6_readTerm_1 (j := 57) (n := 156) rfl) (hz_wg wX6_readTerm_1 (j := 58) (n := 0) rfl) (hz_wg wX6_readTerm_1 (j := 59) (n := 19) rfl) (by decide)
theorem dX6_readTerm_124 : decode cX6_readTerm 124 = .ok (.aload_n 0, 1) := dq_42 (hz_wg wX6_readTerm_1 (j := 60) (n := 42) rfl)
theorem dX6_readTerm_125 : decode cX6_readTerm 125 = .ok (.iload_n 1, 1) := dq_27 (hz_wg wX6_readTerm_1 (j := 61) (n := 27) rfl)
theorem dX6_readTerm_126 : decode cX6_readTerm 126 = .ok (.iload 4, 2) := dq_21 (hz_wg wX6_readTerm_1 (j := 62) (n := 21) rfl) (hz_wg wX6_readTerm_1 (j := 63) (n := 4) rfl)
theorem dX6_readTerm_128 : decode cX6_readTerm 128 = .ok (.ifCond .eq 7, 3) := dq_153 (hz_wg wX6_readTerm_2 (j := 0) (n := 153) rfl) (hz_wg wX6_readTerm_2 (j := 1) (n := 0) rfl) (hz_wg wX6_readTerm_2 (j := 2) (n := 7) rfl) (by decide)
theorem dX6_readTerm_131 : decode cX6_readTerm 131 = .ok (.iconst 0, 1) := dq_3 (hz_wg wX6_readTerm_2 (j := 3) (n := 3) rfl)
theorem dX6_readTerm_132 : decode cX6_readTerm 132 = .ok (.goto 4, 3) := dq_167 (hz_wg wX6_readTerm_2 (j := 4) (n := 167) rfl) (hz_wg wX6_readTerm_2 (j := 5) (n := 0) rfl) (hz_wg wX6_readTerm_2 (j := 6) (n := 4) rfl) (by decide)
theorem dX6_readTerm_135 : decode cX6_readTerm 135 = .ok (.iconst 1, 1) := dq_4 (hz_wg wX6_readTerm_2 (j := 7) (n := 4) rfl)
theorem dX6_readTerm_136 : decode cX6_readTerm 136 = .ok (.invokevirtual 45, 3) := dq_182 (hz_wg wX6_readTerm_2 (j := 8) (n := 182) rfl) (hz_wg wX6_readTerm_2 (j := 9) (n := 0) rfl) (hz_wg wX6_readTerm_2 (j := 10) (n := 45) rfl) rfl
theorem dX6_readTerm_139 : decode cX6_readTerm 139 = .ok (.ireturn, 1) := dq_172 (hz_wg wX6_readTerm_2 (j := 11) (n := 172) rfl)
theorem dX6_readTerm_140 : decode cX6_readTerm 140 = .ok (.aload_n 0, 1) := dq_42 (hz_wg wX6_readTerm_2 (j := 12) (n := 42) rfl)
theorem dX6_readTerm_141 : decode cX6_readTerm 141 = .ok (.getfield 31, 3) := dq_180 (hz_wg wX6_readTerm_2 (j := 13) (n := 180) rfl) (hz_wg wX6_readTerm_2 (j := 14) (n := 0) rfl) (hz_wg wX6_readTerm_2 (j := 15) (n := 31) rfl) rfl
theorem dX6_readTerm_144 : decode cX6_readTerm 144 = .ok (.iload_n 2, 1) := dq_28 (hz_wg wX6_readTerm_2 (j := 16) (n := 28) rfl)
theorem dX6_readTerm_145 : decode cX6_readTerm 145 = .ok (.iload_n 3, 1) := dq_29 (hz_wg wX6_readTerm_2 (j := 17) (n := 29) rfl)
theorem dX6_readTerm_146 : decode cX6_readTerm 146 = .ok (.iload 4, 2) := dq_21 (hz_wg wX6_readTerm_2 (j := 18) (n := 21) rfl) (hz_wg wX6_readTerm_2 (j := 19) (n := 4) rfl)
theorem dX6_readTerm_148 : decode cX6_readTerm 148 = .ok (.iload 5, 2) := dq_21 (hz_wg wX6_readTerm_2 (j := 20) (n := 21) rfl) (hz_wg wX6_readTerm_2 (j := 21) (n := 5) rfl)
theorem dX6_readTerm_150 : decode cX6_readTerm 150 = .ok (.invokestatic 121, 3) := dq_184 (hz_wg wX6_readTerm_2 (j := 22) (n := 184) rfl) (hz_wg wX6_readTerm_2 (j := 23) (n := 0) rfl) (hz_wg wX6_readTerm_2 (j := 24) (n := 121) rfl) rfl
theorem dX6_readTerm_153 : decode cX6_readTerm 153 = .ok (.invokevirtual 95, 3) := dq_182 (hz_wg wX6_readTerm_2 (j := 25) (n := 182) rfl) (hz_wg wX6_readTerm_2 (j := 26) (n := 0) rfl) (hz_wg wX6_readTerm_2 (j := 27) (n := 95) rfl) rfl
theorem dX6_readTerm_156 : decode cX6_readTerm 156 = .ok (.iconst 1, 1) := dq_4 (hz_wg wX6_readTerm_2 (j := 28) (n := 4) rfl)
theorem dX6_readTerm_157 : decode cX6_readTerm 157 = .ok (.ireturn, 1) := dq_172 (hz_wg wX6_readTerm_2 (j := 29) (n := 172) rfl)
set_option maxHeartbeats 4000000 in
set_option maxRecDepth 100000 in
theorem t_X6_readTerm (l : Launch) (dC : Nat → ClassId) (dI : Nat → Nat → Nat) (dA : Nat → ClassId) (L : List Nat) (h : hx_h) (sz : Nat) (b0 : hx_z) (x : Nat) (hT : hx_T T_tb L h) (gx : hx_g L h x 6) (qt : Nat) (gqt : hx_g L h qt 42) (f_x_0 : h.2.2 x 0 = some qt) (qi : Nat) (gqi : hx_g L h qi 0) (f_x_6 : h.2.2 x 6 = some qi) : Met l yX6_readTerm (Cond.code yX6_readTerm cX6_readTerm 6 (some .boolean) :: hx_all) ({ frames := 6, cells := 0, slots := 0, locals := 133 }) (va_Pc [.ref x] (hx_BX T_tb (P_ty dA) (dC, dI) vwCl L h sz b0)) (va_Qi (fun (r : Int32) (u : List Nat × hx_h) => (r.toInt = 0 ∨ r.toInt = 1) ∧ hx_T T_tb u.1 u.2 ∧ hx_S T_tb [(0, 4), (6, 2), (6, 3), (6, 5), (12, 0)] L h u.1 u.2) (hx_E T_tb (P_ty dA) (dC, dI) vwCl (hx_A L sz)) (hx_A L sz)) 0 0 (hx_A L sz) := by
  refine hx_metX (lv := [(0, .ref x)]) (by decide +kernel) rfl (Nat.le_of_ble_eq_true rfl) rfl ?_
  intro p e s m below meth c hx hb hml hr hlk hts0 hown hin hsz hW hZ ls hl
  have hts : ∀ w ∈ hx_all, w.before _ s = true := fun w hw => hts0 w (List.mem_cons_of_mem _ hw)
  have hown : s.vm.findClass "SmallCourt$Reader" = some m.cls := hown
  have hM : hx_S T_tb [(0, 4), (6, 2), (6, 3), (6, 5), (12, 0)] L h L h := hx_S.rf
  obtain ⟨zLT, zLA, zMT, zMA, zCS, zSF, zVS, zVR⟩ := hZ.2.2.2.2.2.2
  refine lv_aload_n hx hb dX6_readTerm_0 rfl (lv_at hl 0 rfl) ?_
  refine hx_gov (hx_runV (As := []) (rest := []) ⟨hx, hb, hml, hown, hts⟩ hW (gx.S hM) tt_6 (T := TX6) (N := 7) rfl (t_X6_skipBlanks l dC dI dA L h s.heap.size x hT (gx.S hM) qt (gqt.S hM) ((hM.o gx trivial rfl).2.trans f_x_0)) (cwV 0 hts (hx_gV kw_458 kw_455 kw_457 kw_1 kw_95) rfl rfl rfl (by decide +kernel) ⟨Nat.le_of_ble_eq_true rfl, Nat.le_of_ble_eq_true rfl⟩) rfl hl.1 rfl (Nat.le_of_ble_eq_true rfl) dX6_readTerm_1 ⟨Nat.le_of_ble_eq_true rfl, Nat.le_of_ble_eq_true rfl⟩) hW (fun L_1 h_2 H locs p_4 hW => ?_)
  obtain ⟨hT, hs⟩ := p_4
  replace hT : hx_T T_tb L_1 h_2 := hT
  replace hs : hx_S T_tb [(6, 2)] L h L_1 h_2 := hs
  replace hM := hM.tr (hs.mono (by decide))
  refine lv_aload_n hx hb dX6_readTerm_4 rfl (lv_at hl 0 rfl) ?_
  refine hx_geti hx hb hts hC_6 hown hW hT (gx.S hM) tt_6 2 (by decide) rfl kw_127 ⟨rfl, rfl, rfl⟩ dX6_readTerm_5 (fun x_6 ex_6 lx_6 ux_6 => ?_)
  have fx_6 := ex_6.symm
  refine lv_istore_n (lv' := [(1, .int x_6), (0, .ref x)]) hx hb dX6_readTerm_8 rfl hl (by decide) rfl (fun ls hl => ?_)
  refine lv_aload_n hx hb dX6_readTerm_9 rfl (lv_at hl 1 rfl) ?_
  refine va_ldcS (tx := P_st.getD 5 "") hx hb hown (zVR 5 (by decide)) dX6_readTerm_10 ?_
  refine hx_goi (hx_runVX (As := [.ref (b0.2.2.2.1 5)]) (rest := []) ⟨hx, hb, hml, hown, hts⟩ hW (gx.S hM) tt_6 (T := TX6) (N := 7) rfl (t_X6_readWord l dC dI dA L_1 h_2 H.size b0 x 5 hT (gx.S hM) (by decide) qt (gqt.S hM) ((hM.o gx trivial rfl).2.trans f_x_0)) hZ (cwV 1 hts (hx_gV kw_467 kw_464 kw_466 kw_3 kw_95) rfl rfl rfl (by decide +kernel) ⟨Nat.le_of_ble_eq_true rfl, Nat.le_of_ble_eq_true rfl⟩) rfl hl.1 rfl (Nat.le_of_ble_eq_true rfl) dX6_readTerm_12 ⟨Nat.le_of_ble_eq_true rfl, Nat.le_of_ble_eq_true rfl⟩) hW (fun r_9 L_7 h_8 H locs p_10 hW => ?_)
  obtain ⟨hr_11, hT, hs⟩ := p_10
  replace hT : hx_T T_tb L_7 h_8 := hT
  replace hs : hx_S T_tb [(6, 2)] L_1 h_2 L_7 h_8 := hs
  replace hM := hM.tr (hs.mono (by decide))
  have zl_r_9 : (Int32.ofNat (P_ln.getD 5 0)).toInt = 64 := by decide
  refine lv_istore_n (lv' := [(2, .int r_9), (1, .int x_6), (0, .ref x)]) hx hb dX6_readTerm_15 rfl hl (by decide) rfl (fun ls hl => ?_)
  refine lv_iload_n hx hb dX6_readTerm_16 rfl (lv_at hl 0 rfl) ?_
  refine hb_if_ge (zx := r_9.toInt) (tgt := 27) hx hb rfl dX6_readTerm_17 (by decide) (fun c_12 => ?_) (fun c_12 => ?_)
  · skip
    refine lv_aload_n hx hb dX6_readTerm_27 rfl (lv_at hl 2 rfl) ?_
    refine hx_geti hx hb hts hC_6 hown hW hT (gx.S hM) tt_6 5 (by decide) rfl kw_130 ⟨rfl, rfl, rfl⟩ dX6_readTerm_28 (fun x_13 ex_13 lx_13 ux_13 => ?_)
    have fx_13 := ex_13.symm
    refine lv_bipush (v := 20) hx hb dX6_readTerm_31 (by decide) ?_
    refine hb_icmp_lt (zx := x_13.toInt) (zy := 20) (tgt := 43) hx hb rfl (by decide) dX6_readTerm_33 (by decide) (fun c_14 => ?_) (fun c_14 => ?_)
    · skip
      refine lv_aload_n hx hb dX6_readTerm_43 rfl (lv_at hl 2 rfl) ?_
      refine lv_dup hx hb dX6_readTerm_44 rfl ?_
      refine hk_geti hx hb hts hC_6 hown hW (gx.S hM) tt_6 5 (by decide) rfl kw_130 ⟨rfl, rfl, rfl⟩ fx_13 dX6_readTerm_45 ?_
      refine lv_iconst (v := 1) hx hb dX6_readTerm_48 (by decide) ?_
      refine lv_iadd hx hb dX6_readTerm_49 ?_
      have rg_15 := i32_r x_13
      refine lv_topi (fun x_16 ex_16 => ?_)
      have zx_16 : x_16.toInt = x_13.toInt + 1 := by rw [ex_16]; exact i32_add rfl (by decide) (by omega) (by omega)
      refine hx_puti hx hb hts hC_6 hown hW hT (hx_S.rf (M := [(6, 5)])) (gx.S hM) tt_6 5 (by decide) rfl kw_130 ⟨rfl, rfl, rfl⟩ rfl (x := x_16) (i32_r _) rfl rfl rfl (List.mem_singleton.mpr rfl) dX6_readTerm_50 (fun H locs h_17 eh_17 hW hT hs => ?_)
      replace hM := hM.tr (hs.mono (by decide))
      have f_18 : h_17.2.1 x 5 = x_16 := by rw [eh_17]; exact hx_pi_at _ _ _ _
      refine lv_aload_n hx hb dX6_readTerm_53 rfl (lv_at hl 2 rfl) ?_
      refine hx_goi (hx_runV (As := []) (rest := []) ⟨hx, hb, hml, hown, hts⟩ hW (gx.S hM) tt_6 (T := TX6) (N := 7) rfl (t_X6_readSign l dC dI dA L_7 h_17 H.size x hT (gx.S hM) qt (gqt.S hM) ((hM.o gx trivial rfl).2.trans f_x_0)) (cwV 0 hts (hx_gV kw_578 kw_575 kw_577 kw_17 kw_95) rfl rfl rfl (by decide +kernel) ⟨Nat.le_of_ble_eq_true rfl, Nat.le_of_ble_eq_true rfl⟩) rfl hl.1 rfl (Nat.le_of_ble_eq_true rfl) dX6_readTerm_54 ⟨Nat.le_of_ble_eq_true rfl, Nat.le_of_ble_eq_true rfl⟩) hW (fun r_21 L_19 h_20 H locs p_22 hW => ?_)
      obtain ⟨hr_23, hT, hs⟩ := p_22
      replace hT : hx_T T_tb L_19 h_20 := hT
      replace hs : hx_S T_tb [(6, 2)] L_7 h_17 L_19 h_20 := hs
      replace f_18 := (hs.o (gx.S hM) trivial rfl).1.trans f_18
      replace hM := hM.tr (hs.mono (by decide))
      refine lv_istore_n (lv' := [(3, .int r_21), (2, .int r_9), (1, .int x_6), (0, .ref x)]) hx hb dX6_readTerm_57 rfl hl (by decide) rfl (fun ls hl => ?_)
      refine lv_iload_n hx hb dX6_readTerm_58 rfl (lv_at hl 0 rfl) ?_
      refine hb_if_ne (zx := r_21.toInt) (tgt := 72) hx hb rfl dX6_readTerm_59 (by decide) (fun c_24 => ?_) (fun c_24 => ?_)
      · skip
        refine lv_aload_n hx hb dX6_readTerm_72 rfl (lv_at hl 3 rfl) ?_
        refine hx_gov (hx_runV (As := []) (rest := []) ⟨hx, hb, hml, hown, hts⟩ hW (gx.S hM) tt_6 (T := TX6) (N := 7) rfl (t_X6_skipBlanks l dC dI dA L_19 h_20 H.size x hT (gx.S hM) qt (gqt.S hM) ((hM.o gx trivial rfl).2.trans f_x_0)) (cwV 0 hts (hx_gV kw_458 kw_455 kw_457 kw_1 kw_95) rfl rfl rfl (by decide +kernel) ⟨Nat.le_of_ble_eq_true rfl, Nat.le_of_ble_eq_true rfl⟩) rfl hl.1 rfl (Nat.le_of_ble_eq_true rfl) dX6_readTerm_73 ⟨Nat.le_of_ble_eq_true rfl, Nat.le_of_ble_eq_true rfl⟩) hW (fun L_25 h_26 H locs p_28 hW => ?_)
        obtain ⟨hT, hs⟩ := p_28
        replace hT : hx_T T_tb L_25 h_26 := hT
        replace hs : hx_S T_tb [(6, 2)] L_19 h_20 L_25 h_26 := hs
        replace f_18 := (hs.o (gx.S hM) trivial rfl).1.trans f_18
        replace hM := hM.tr (hs.mono (by decide))
        refine lv_aload_n hx hb dX6_readTerm_76 rfl (lv_at hl 3 rfl) ?_
        refine hx_geti hx hb hts hC_6 hown hW hT (gx.S hM) tt_6 2 (by decide) rfl kw_127 ⟨rfl, rfl, rfl⟩ dX6_readTerm_77 (fun x_30 ex_30 lx_30 ux_30 => ?_)
        have fx_30 := ex_30.symm
        refine lv_istore_n (lv' := [(1, .int x_30), (3, .int r_21), (2, .int r_9), (0, .ref x)]) hx hb dX6_readTerm_80 rfl hl (by decide) rfl (fun ls hl => ?_)
        refine lv_aload_n hx hb dX6_readTerm_81 rfl (lv_at hl 3 rfl) ?_
        refine lv_aload_n hx hb dX6_readTerm_82 rfl (lv_at hl 3 rfl) ?_
        refine hk_geti hx hb hts hC_6 hown hW (gx.S hM) tt_6 2 (by decide) rfl kw_127 ⟨rfl, rfl, rfl⟩ fx_30 dX6_readTerm_83 ?_
        refine hx_goi (hx_runV (As := [.int x_30]) (rest := []) ⟨hx, hb, hml, hown, hts⟩ hW (gx.S hM) tt_6 (T := TX6) (N := 7) rfl (t_X6_isDigit l dC dI dA L_25 h_26 H.size x x_30 hT (gx.S hM) (by omega) qt (gqt.S hM) ((hM.o gx trivial rfl).2.trans f_x_0)) (cwV 1 hts (hx_gV kw_544 kw_541 kw_543 kw_10 kw_95) rfl rfl rfl (by decide +kernel) ⟨Nat.le_of_ble_eq_true rfl, Nat.le_of_ble_eq_true rfl⟩) rfl hl.1 rfl (Nat.le_of_ble_eq_true rfl) dX6_readTerm_86 ⟨Nat.le_of_ble_eq_true rfl, Nat.le_of_ble_eq_true rfl⟩) hW (fun r_33 L_31 h_32 H locs p_34 hW => ?_)
        obtain ⟨hr_35, hT, hs⟩ := p_34
        replace hT : hx_T T_tb L_31 h_32 := hT
        replace hs : hx_S T_tb [] L_25 h_26 L_31 h_32 := hs
        replace f_18 := (hs.o (gx.S hM) trivial rfl).1.trans f_18
        replace fx_30 := (hs.o (gx.S hM) trivial rfl).1.trans fx_30
        replace hM := hM.tr (hs.mono (by decide))
        have jn_97 : ∀ (xj_36 : Int32) (ls : Array Slot), 0 ≤ xj_36.toInt → xj_36.toInt ≤ 1 → lv_has ls 6 [(1, .int x_30), (3, .int r_21), (2, .int r_9), (0, .ref x)] → W p l e ({ frames := 6, cells := 0, slots := 0, locals := 133 }) s m ([.ref x] : List Value).toArray below meth c H locs 0 0 (MQ below (va_Qi (fun (r : Int32) (u : List Nat × hx_h) => (r.toInt = 0 ∨ r.toInt = 1) ∧ hx_T T_tb u.1 u.2 ∧ hx_S T_tb [(0, 4), (6, 2), (6, 3), (6, 5), (12, 0)] L h u.1 u.2) (hx_E T_tb (P_ty dA) (dC, dI) vwCl (hx_A L sz)) (hx_A L sz)) ([.ref x] : List Value).toArray s 0 0 (hx_A L sz)) (F0 m 97 ls [.int xj_36]) := by
          intro xj_36 ls blxj_36 buxj_36 hl
          refine lv_istore (lv' := [(4, .int xj_36), (1, .int x_30), (3, .int r_21), (2, .int r_9), (0, .ref x)]) hx hb dX6_readTerm_97 hl (by decide) rfl (fun ls hl => ?_)
          refine lv_iload hx hb dX6_readTerm_99 (lv_at hl 0 rfl) ?_
          refine hb_if_eq (zx := xj_36.toInt) (tgt := 113) hx hb rfl dX6_readTerm_101 (by decide) (fun c_37 => ?_) (fun c_37 => ?_)
          · skip
            refine lv_aload_n hx hb dX6_readTerm_113 rfl (lv_at hl 4 rfl) ?_
            refine hx_goi (hx_runV (As := []) (rest := []) ⟨hx, hb, hml, hown, hts⟩ hW (gx.S hM) tt_6 (T := TX6) (N := 7) rfl (t_X6_readNumber l dC dI dA L_31 h_32 H.size x hT (gx.S hM) qt (gqt.S hM) ((hM.o gx trivial rfl).2.trans f_x_0)) (cwV 0 hts (hx_gV kw_548 kw_545 kw_547 kw_11 kw_95) rfl rfl rfl (by decide +kernel) ⟨Nat.le_of_ble_eq_true rfl, Nat.le_of_ble_eq_true rfl⟩) rfl hl.1 rfl (Nat.le_of_ble_eq_true rfl) dX6_readTerm_114 ⟨Nat.le_of_ble_eq_true rfl, Nat.le_of_ble_eq_true rfl⟩) hW (fun r_40 L_38 h_39 H locs p_41 hW => ?_)
            obtain ⟨hr_42, hT, hs⟩ := p_41
            replace hT : hx_T T_tb L_38 h_39 := hT
            replace hs : hx_S T_tb [(6, 2)] L_31 h_32 L_38 h_39 := hs
            replace f_18 := (hs.o (gx.S hM) trivial rfl).1.trans f_18
            replace hM := hM.tr (hs.mono (by decide))
            refine lv_istore (lv' := [(5, .int r_40), (4, .int xj_36), (1, .int x_30), (3, .int r_21), (2, .int r_9), (0, .ref x)]) hx hb dX6_readTerm_117 hl (by decide) rfl (fun ls hl => ?_)
            refine lv_iload hx hb dX6_readTerm_119 (lv_at hl 0 rfl) ?_
            refine hb_if_ge (zx := r_40.toInt) (tgt := 140) hx hb rfl dX6_readTerm_121 (by decide) (fun c_43 => ?_) (fun c_43 => ?_)
            · skip
              refine lv_aload_n hx hb dX6_readTerm_140 rfl (lv_at hl 5 rfl) ?_
              refine hk_getr hx hb hts hC_6 hown hW (gx.S hM) tt_6 6 (by decide) rfl kw_131 ⟨rfl, rfl, rfl⟩ ((hM.o gx trivial rfl).2.trans f_x_6) dX6_readTerm_141 ?_
              refine lv_iload_n hx hb dX6_readTerm_144 rfl (lv_at hl 4 rfl) ?_
              refine lv_iload_n hx hb dX6_readTerm_145 rfl (lv_at hl 3 rfl) ?_
              refine lv_iload hx hb dX6_readTerm_146 (lv_at hl 1 rfl) ?_
              refine lv_iload hx hb dX6_readTerm_148 (lv_at hl 0 rfl) ?_
              refine hx_goi (hx_runS (As := [.int r_9, .int r_21, .int xj_36, .int r_40]) (rest := [.ref qi]) ⟨hx, hb, hml, hown, hts⟩ hW (t_X0_term l dC dI dA L_38 h_39 H.size r_9 r_21 xj_36 r_40 hT) (va_cwS 4 hts (hx_gS kw_161 kw_579 kw_160 kw_96) rfl rfl rfl (by decide +kernel) ⟨Nat.le_of_ble_eq_true rfl, Nat.le_of_ble_eq_true rfl⟩) rfl hl.1 rfl (Nat.le_of_ble_eq_true rfl) dX6_readTerm_150 ⟨Nat.le_of_ble_eq_true rfl, Nat.le_of_ble_eq_true rfl⟩) hW (fun r_46 L_44 h_45 H locs p_47 hW => ?_)
              obtain ⟨hr_48, hT, hs⟩ := p_47
              replace hT : hx_T T_tb L_44 h_45 := hT
              replace hs : hx_S T_tb [] L_38 h_39 L_44 h_45 := hs
              replace f_18 := (hs.o (gx.S hM) trivial rfl).1.trans f_18
              replace hM := hM.tr (hs.mono (by decide))
              refine hx_gov (hx_runV (As := [.int r_46]) (rest := []) ⟨hx, hb, hml, hown, hts⟩ hW (gqi.S hM) tt_0 (T := TX0) (N := 5) rfl (t_X0_addProof l dC dI dA L_44 h_45 H.size qi r_46 hT (gqi.S hM)) (cwV 1 hts (hx_gV kw_583 kw_580 kw_581 kw_582 kw_96) rfl rfl rfl (by decide +kernel) ⟨Nat.le_of_ble_eq_true rfl, Nat.le_of_ble_eq_true rfl⟩) rfl hl.1 rfl (Nat.le_of_ble_eq_true rfl) dX6_readTerm_153 ⟨Nat.le_of_ble_eq_true rfl, Nat.le_of_ble_eq_true rfl⟩) hW (fun L_49 h_50 H locs p_52 hW => ?_)
              obtain ⟨hT, hs⟩ := p_52
              replace hT : hx_T T_tb L_49 h_50 := hT
              replace hs : hx_S T_tb [(0, 4), (12, 0)] L_44 h_45 L_49 h_50 := hs
              replace f_18 := (hs.o (gx.S hM) trivial rfl).1.trans f_18
              replace hM := hM.tr (hs.mono (by decide))
              refine lv_iconst (v := 1) hx hb dX6_readTerm_156 (by decide) ?_
              exact hx_retz hx hb hr rfl hlk hW ⟨(by decide), hT, hM⟩ dX6_readTerm_157
            · skip
              refine lv_aload_n hx hb dX6_readTerm_124 rfl (lv_at hl 5 rfl) ?_
              refine lv_iload_n hx hb dX6_readTerm_125 rfl (lv_at hl 2 rfl) ?_
              refine lv_iload hx hb dX6_readTerm_126 (lv_at hl 1 rfl) ?_
              have jn_136 : ∀ (xj_54 : Int32) (ls : Array Slot), 0 ≤ xj_54.toInt → xj_54.toInt ≤ 1 → lv_has ls 6 [(5, .int r_40), (4, .int xj_36), (1, .int x_30), (3, .int r_21), (2, .int r_9), (0, .ref x)] → W p l e ({ frames := 6, cells := 0, slots := 0, locals := 133 }) s m ([.ref x] : List Value).toArray below meth c H locs 0 0 (MQ below (va_Qi (fun (r : Int32) (u : List Nat × hx_h) => (r.toInt = 0 ∨ r.toInt = 1) ∧ hx_T T_tb u.1 u.2 ∧ hx_S T_tb [(0, 4), (6, 2), (6, 3), (6, 5), (12, 0)] L h u.1 u.2) (hx_E T_tb (P_ty dA) (dC, dI) vwCl (hx_A L sz)) (hx_A L sz)) ([.ref x] : List Value).toArray s 0 0 (hx_A L sz)) (F0 m 136 ls [.int xj_54, .int x_30, .ref x]) := by
                intro xj_54 ls blxj_54 buxj_54 hl
                refine hx_goi (hx_runV (As := [.int x_30, .int xj_54]) (rest := []) ⟨hx, hb, hml, hown, hts⟩ hW (gx.S hM) tt_6 (T := TX6) (N := 7) rfl (t_X6_refuse l dC dI dA L_38 h_39 H.size x x_30 xj_54 hT (gx.S hM)) (cwV 2 hts (hx_gV kw_527 kw_524 kw_526 kw_6 kw_95) rfl rfl rfl (by decide +kernel) ⟨Nat.le_of_ble_eq_true rfl, Nat.le_of_ble_eq_true rfl⟩) rfl hl.1 rfl (Nat.le_of_ble_eq_true rfl) dX6_readTerm_136 ⟨Nat.le_of_ble_eq_true rfl, Nat.le_of_ble_eq_true rfl⟩) hW (fun r_57 L_55 h_56 H locs p_58 hW => ?_)
                obtain ⟨hr_59, hT, hs⟩ := p_58
                replace hT : hx_T T_tb L_55 h_56 := hT
                replace hs : hx_S T_tb [(6, 3)] L_38 h_39 L_55 h_56 := hs
                replace f_18 := (hs.o (gx.S hM) trivial rfl).1.trans f_18
                replace hM := hM.tr (hs.mono (by decide))
                exact hx_retz hx hb hr (hx_nar01 (by omega)) hlk hW ⟨(by omega), hT, hM⟩ dX6_readTerm_139
              refine hb_if_eq (zx := xj_36.toInt) (tgt := 135) hx hb rfl dX6_readTerm_128 (by decide) (fun c_60 => ?_) (fun c_60 => by exfalso; omega)
              refine lv_iconst (v := 1) hx hb dX6_readTerm_135 (by decide) ?_
              exact jn_136 (1 : Int32) ls (by decide) (by decide) hl
          · skip
            refine lv_aload_n hx hb dX6_readTerm_104 rfl (lv_at hl 4 rfl) ?_
            refine va_ldcS (tx := P_st.getD 5 "") hx hb hown (zVR 5 (by decide)) dX6_readTerm_105 ?_
            refine hx_goi (hx_runVX (As := [.ref (b0.2.2.2.1 5)]) (rest := []) ⟨hx, hb, hml, hown, hts⟩ hW (gx.S hM) tt_6 (T := TX6) (N := 7) rfl (t_X6_readWord l dC dI dA L_31 h_32 H.size b0 x 5 hT (gx.S hM) (by decide) qt (gqt.S hM) ((hM.o gx trivial rfl).2.trans f_x_0)) hZ (cwV 1 hts (hx_gV kw_467 kw_464 kw_466 kw_3 kw_95) rfl rfl rfl (by decide +kernel) ⟨Nat.le_of_ble_eq_true rfl, Nat.le_of_ble_eq_true rfl⟩) rfl hl.1 rfl (Nat.le_of_ble_eq_true rfl) dX6_readTerm_107 ⟨Nat.le_of_ble_eq_true rfl, Nat.le_of_ble_eq_true rfl⟩) hW (fun r_63 L_61 h_62 H locs p_64 hW => ?_)
            obtain ⟨hr_65, hT, hs⟩ := p_64
            replace hT : hx_T T_tb L_61 h_62 := hT
            replace hs : hx_S T_tb [(6, 2)] L_31 h_32 L_61 h_62 := hs
            replace f_18 := (hs.o (gx.S hM) trivial rfl).1.trans f_18
            replace hM := hM.tr (hs.mono (by decide))
            have zl_r_63 : (Int32.ofNat (P_ln.getD 5 0)).toInt = 64 := by decide
            refine lv_goto (tgt := 117) hx hb dX6_readTerm_110 (by decide) ?_
            refine lv_istore (lv' := [(5, .int r_63), (4, .int xj_36), (1, .int x_30), (3, .int r_21), (2, .int r_9), (0, .ref x)]) hx hb dX6_readTerm_117 hl (by decide) rfl (fun ls hl => ?_)
            refine lv_iload hx hb dX6_readTerm_119 (lv_at hl 0 rfl) ?_
            refine hb_if_ge (zx := r_63.toInt) (tgt := 140) hx hb rfl dX6_readTerm_121 (by decide) (fun c_66 => ?_) (fun c_66 => ?_)
            · skip
              refine lv_aload_n hx hb dX6_readTerm_140 rfl (lv_at hl 5 rfl) ?_
              refine hk_getr hx hb hts hC_6 hown hW (gx.S hM) tt_6 6 (by decide) rfl kw_131 ⟨rfl, rfl, rfl⟩ ((hM.o gx trivial rfl).2.trans f_x_6) dX6_readTerm_141 ?_
              refine lv_iload_n hx hb dX6_readTerm_144 rfl (lv_at hl 4 rfl) ?_
              refine lv_iload_n hx hb dX6_readTerm_145 rfl (lv_at hl 3 rfl) ?_
              refine lv_iload hx hb dX6_readTerm_146 (lv_at hl 1 rfl) ?_
              refine lv_iload hx hb dX6_readTerm_148 (lv_at hl 0 rfl) ?_
              refine hx_goi (hx_runS (As := [.int r_9, .int r_21, .int xj_36, .int r_63]) (rest := [.ref qi]) ⟨hx, hb, hml, hown, hts⟩ hW (t_X0_term l dC dI dA L_61 h_62 H.size r_9 r_21 xj_36 r_63 hT) (va_cwS 4 hts (hx_gS kw_161 kw_579 kw_160 kw_96) rfl rfl rfl (by decide +kernel) ⟨Nat.le_of_ble_eq_true rfl, Nat.le_of_ble_eq_true rfl⟩) rfl hl.1 rfl (Nat.le_of_ble_eq_true rfl) dX6_readTerm_150 ⟨Nat.le_of_ble_eq_true rfl, Nat.le_of_ble_eq_true rfl⟩) hW (fun r_69 L_67 h_68 H locs p_70 hW => ?_)
              obtain ⟨hr_71, hT, hs⟩ := p_70
              replace hT : hx_T T_tb L_67 h_68 := hT
              replace hs : hx_S T_tb [] L_61 h_62 L_67 h_68 := hs
              replace f_18 := (hs.o (gx.S hM) trivial rfl).1.trans f_18
              replace hM := hM.tr (hs.mono (by decide))
              refine hx_gov (hx_runV (As := [.int r_69]) (rest := []) ⟨hx, hb, hml, hown, hts⟩ hW (gqi.S hM) tt_0 (T := TX0) (N := 5) rfl (t_X0_addProof l dC dI dA L_67 h_68 H.size qi r_69 hT (gqi.S hM)) (cwV 1 hts (hx_gV kw_583 kw_580 kw_581 kw_582 kw_96) rfl rfl rfl (by decide +kernel) ⟨Nat.le_of_ble_eq_true rfl, Nat.le_of_ble_eq_true rfl⟩) rfl hl.1 rfl (Nat.le_of_ble_eq_true rfl) dX6_readTerm_153 ⟨Nat.le_of_ble_eq_true rfl, Nat.le_of_ble_eq_true rfl⟩) hW (fun L_72 h_73 H locs p_75 hW => ?_)
              obtain ⟨hT, hs⟩ := p_75
              replace hT : hx_T T_tb L_72 h_73 := hT
              replace hs : hx_S T_tb [(0, 4), (12, 0)] L_67 h_68 L_72 h_73 := hs
              replace f_18 := (hs.o (gx.S hM) trivial rfl).1.trans f_18
              replace hM := hM.tr (hs.mono (by decide))
              refine lv_iconst (v := 1) hx hb dX6_readTerm_156 (by decide) ?_
              exact hx_retz hx hb hr rfl hlk hW ⟨(by decide), hT, hM⟩ dX6_readTerm_157
            · skip
              refine lv_aload_n hx hb dX6_readTerm_124 rfl (lv_at hl 5 rfl) ?_
              refine lv_iload_n hx hb dX6_readTerm_125 rfl (lv_at hl 2 rfl) ?_
              refine lv_iload hx hb dX6_readTerm_126 (lv_at hl 1 rfl) ?_
              have jn_136 : ∀ (xj_77 : Int32) (ls : Array Slot), 0 ≤ xj_77.toInt → xj_77.toInt ≤ 1 → lv_has ls 6 [(5, .int r_63), (4, .int xj_36), (1, .int x_30), (3, .int r_21), (2, .int r_9), (0, .ref x)] → W p l e ({ frames := 6, cells := 0, slots := 0, locals := 133 }) s m ([.ref x] : List Value).toArray below meth c H locs 0 0 (MQ below (va_Qi (fun (r : Int32) (u : List Nat × hx_h) => (r.toInt = 0 ∨ r.toInt = 1) ∧ hx_T T_tb u.1 u.2 ∧ hx_S T_tb [(0, 4), (6, 2), (6, 3), (6, 5), (12, 0)] L h u.1 u.2) (hx_E T_tb (P_ty dA) (dC, dI) vwCl (hx_A L sz)) (hx_A L sz)) ([.ref x] : List Value).toArray s 0 0 (hx_A L sz)) (F0 m 136 ls [.int xj_77, .int x_30, .ref x]) := by
                intro xj_77 ls blxj_77 buxj_77 hl
                refine hx_goi (hx_runV (As := [.int x_30, .int xj_77]) (rest := []) ⟨hx, hb, hml, hown, hts⟩ hW (gx.S hM) tt_6 (T := TX6) (N := 7) rfl (t_X6_refuse l dC dI dA L_61 h_62 H.size x x_30 xj_77 hT (gx.S hM)) (cwV 2 hts (hx_gV kw_527 kw_524 kw_526 kw_6 kw_95) rfl rfl rfl (by decide +kernel) ⟨Nat.le_of_ble_eq_true rfl, Nat.le_of_ble_eq_true rfl⟩) rfl hl.1 rfl (Nat.le_of_ble_eq_true rfl) dX6_readTerm_136 ⟨Nat.le_of_ble_eq_true rfl, Nat.le_of_ble_eq_true rfl⟩) hW (fun r_80 L_78 h_79 H locs p_81 hW => ?_)
                obtain ⟨hr_82, hT, hs⟩ := p_81
                replace hT : hx_T T_tb L_78 h_79 := hT
                replace hs : hx_S T_tb [(6, 3)] L_61 h_62 L_78 h_79 := hs
                replace f_18 := (hs.o (gx.S hM) trivial rfl).1.trans f_18
                replace hM := hM.tr (hs.mono (by decide))
                exact hx_retz hx hb hr (hx_nar01 (by omega)) hlk hW ⟨(by omega), hT, hM⟩ dX6_readTerm_139
              refine hb_if_eq (zx := xj_36.toInt) (tgt := 135) hx hb rfl dX6_readTerm_128 (by decide) (fun c_83 => by exfalso; omega) (fun c_83 => ?_)
              refine lv_iconst (v := 0) hx hb dX6_readTerm_131 (by decide) ?_
              refine lv_goto (tgt := 136) hx hb dX6_readTerm_132 (by decide) ?_
              exact jn_136 (0 : Int32) ls (by decide) (by decide) hl
        refine hb_if_ne (zx := r_33.toInt) (tgt := 96) hx hb rfl dX6_readTerm_89 (by decide) (fun c_84 => ?_) (fun c_84 => ?_)
        · skip
          refine lv_iconst (v := 0) hx hb dX6_readTerm_96 (by decide) ?_
          exact jn_97 (0 : Int32) ls (by decide) (by decide) hl
        · skip
          refine lv_iconst (v := 1) hx hb dX6_readTerm_92 (by decide) ?_
          refine lv_goto (tgt := 97) hx hb dX6_readTerm_93 (by decide) ?_
          exact jn_97 (1 : Int32) ls (by decide) (by decide) hl
      · skip
        refine lv_aload_n hx hb dX6_readTerm_62 rfl (lv_at hl 3 rfl) ?_
        refine lv_aload_n hx hb dX6_readTerm_63 rfl (lv_at hl 3 rfl) ?_
        refine hx_geti hx hb hts hC_6 hown hW hT (gx.S hM) tt_6 2 (by decide) rfl kw_127 ⟨rfl, rfl, rfl⟩ dX6_readTerm_64 (fun x_85 ex_85 lx_85 ux_85 => ?_)
        have fx_85 := ex_85.symm
        refine lv_iconst (v := 0) hx hb dX6_readTerm_67 (by decide) ?_
        have zc_0 : (0 : Int32).toInt = 0 := by decide
        refine hx_goi (hx_runV (As := [.int x_85, .int (0 : Int32)]) (rest := []) ⟨hx, hb, hml, hown, hts⟩ hW (gx.S hM) tt_6 (T := TX6) (N := 7) rfl (t_X6_refuse l dC dI dA L_19 h_20 H.size x x_85 (0 : Int32) hT (gx.S hM)) (cwV 2 hts (hx_gV kw_527 kw_524 kw_526 kw_6 kw_95) rfl rfl rfl (by decide +kernel) ⟨Nat.le_of_ble_eq_true rfl, Nat.le_of_ble_eq_true rfl⟩) rfl hl.1 rfl (Nat.le_of_ble_eq_true rfl) dX6_readTerm_68 ⟨Nat.le_of_ble_eq_true rfl, Nat.le_of_ble_eq_true rfl⟩) hW (fun r_88 L_86 h_87 H locs p_89 hW => ?_)
        obtain ⟨hr_90, hT, hs⟩ := p_89
        replace hT : hx_T T_tb L_86 h_87 := hT
        replace hs : hx_S T_tb [(6, 3)] L_19 h_20 L_86 h_87 := hs
        replace f_18 := (hs.o (gx.S hM) trivial rfl).1.trans f_18
        replace fx_85 := (hs.o (gx.S hM) trivial rfl).1.trans fx_85
        replace hM := hM.tr (hs.mono (by decide))
        exact hx_retz hx hb hr (hx_nar01 (by omega)) hlk hW ⟨(by omega), hT, hM⟩ dX6_readTerm_71
    · skip
      refine lv_aload_n hx hb dX6_readTerm_36 rfl (lv_at hl 2 rfl) ?_
      refine lv_iload_n hx hb dX6_readTerm_37 rfl (lv_at hl 1 rfl) ?_
      refine lv_iconst (v := 4) hx hb dX6_readTerm_38 (by decide) ?_
      have zc_4 : (4 : Int32).toInt = 4 := by decide
      refine hx_goi (hx_runV (As := [.int x_6, .int (4 : Int32)]) (rest := []) ⟨hx, hb, hml, hown, hts⟩ hW (gx.S hM) tt_6 (T := TX6) (N := 7) rfl (t_X6_refuse l dC dI dA L_7 h_8 H.size x x_6 (4 : Int32) hT (gx.S hM)) (cwV 2 hts (hx_gV kw_527 kw_524 kw_526 kw_6 kw_95) rfl rfl rfl (by decide +kernel) ⟨Nat.le_of_ble_eq_true rfl, Nat.le_of_ble_eq_true rfl⟩) rfl hl.1 rfl (Nat.le_of_ble_eq_true rfl) dX6_readTerm_39 ⟨Nat.le_of_ble_eq_true rfl, Nat.le_of_ble_eq_true rfl⟩) hW (fun r_93 L_91 h_92 H locs p_94 hW => ?_)
      obtain ⟨hr_95, hT, hs⟩ := p_94
      replace hT : hx_T T_tb L_91 h_92 := hT
      replace hs : hx_S T_tb [(6, 3)] L_7 h_8 L_91 h_92 := hs
      replace fx_13 := (hs.o (gx.S hM) trivial rfl).1.trans fx_13
      replace hM := hM.tr (hs.mono (by decide))
      exact hx_retz hx hb hr (hx_nar01 (by omega)) hlk hW ⟨(by omega), hT, hM⟩ dX6_readTerm_42
  · skip
    refine lv_aload_n hx hb dX6_readTerm_20 rfl (lv_at hl 2 rfl) ?_
    refine lv_iload_n hx hb dX6_readTerm_21 rfl (lv_at hl 1 rfl) ?_
    refine lv_iconst (v := 0) hx hb dX6_readTerm_22 (by decide) ?_
    have zc_0 : (0 : Int32).toInt = 0 := by decide
    refine hx_goi (hx_runV (As := [.int x_6, .int (0 : Int32)]) (rest := []) ⟨hx, hb, hml, hown, hts⟩ hW (gx.S hM) tt_6 (T := TX6) (N := 7) rfl (t_X6_refuse l dC dI dA L_7 h_8 H.size x x_6 (0 : Int32) hT (gx.S hM)) (cwV 2 hts (hx_gV kw_527 kw_524 kw_526 kw_6 kw_95) rfl rfl rfl (by decide +kernel) ⟨Nat.le_of_ble_eq_true rfl, Nat.le_of_ble_eq_true rfl⟩) rfl hl.1 rfl (Nat.le_of_ble_eq_true rfl) dX6_readTerm_23 ⟨Nat.le_of_ble_eq_true rfl, Nat.le_of_ble_eq_true rfl⟩) hW (fun r_98 L_96 h_97 H locs p_99 hW => ?_)
    obtain ⟨hr_100, hT, hs⟩ := p_99
    replace hT : hx_T T_tb L_96 h_97 := hT
    replace hs : hx_S T_tb [(6, 3)] L_7 h_8 L_96 h_97 := hs
    replace hM := hM.tr (hs.mono (by decide))
    exact hx_retz hx hb hr (hx_nar01 (by omega)) hlk hW ⟨(by omega), hT, hM⟩ dX6_readTerm_26

def wLX6_readOne_0 : List Nat := [42, 18, 107, 182, 0, 101, 61, 28, 154, 0, 17, 42, 16, 40, 182, 0, 109, 154, 0, 8, 42, 182, 0, 113, 172, 27, 16, 8, 161, 0, 13, 42, 42, 180, 0, 19, 6, 182, 0, 45, 172, 28, 153, 0, 36, 42, 89, 180, 0, 19, 6, 96, 181, 0, 19, 42, 27, 4, 96, 182, 0, 92, 154, 0]
def wLX6_readOne_1 : List Nat := [5, 3, 172, 42, 180, 0, 31, 16, 253, 182, 0, 95, 4, 172, 42, 89, 180, 0, 19, 4, 96, 181, 0, 19, 42, 27, 4, 96, 182, 0, 66, 154, 0, 5, 3, 172, 42, 182, 0, 35, 42, 16, 41, 182, 0, 109, 154, 0, 13, 42, 42, 180, 0, 19, 3, 182, 0, 45, 172, 42, 89, 180, 0, 19]
def wLX6_readOne_2 : List Nat := [4, 96, 181, 0, 19, 4, 172]
theorem wX6_readOne_0 : (cX6_readOne.data.toList.map UInt8.toNat).drop 0 = wLX6_readOne_0 ++ (wLX6_readOne_1 ++ (wLX6_readOne_2 ++ ([]))) := by decide +kernel
theorem wX6_readOne_1 : (cX6_readOne.data.toList.map UInt8.toNat).drop 64 = wLX6_readOne_1 ++ (wLX6_readOne_2 ++ ([])) := hz_wn wX6_readOne_0 rfl
theorem wX6_readOne_2 : (cX6_readOne.data.toList.map UInt8.toNat).drop 128 = wLX6_readOne_2 ++ ([]) := hz_wn wX6_readOne_1 rfl
theorem dX6_readOne_0 : decode cX6_readOne 0 = .ok (.aload_n 0, 1) := dq_42 (hz_wg wX6_readOne_0 (j := 0) (n := 42) rfl)
theorem dX6_readOne_1 : decode cX6_readOne 1 = .ok (.ldc 107, 2) := dq_18 (hz_wg wX6_readOne_0 (j := 1) (n := 18) rfl) (hz_wg wX6_readOne_0 (j := 2) (n := 107) rfl)
theorem dX6_readOne_3 : decode cX6_readOne 3 = .ok (.invokevirtual 101, 3) := dq_182 (hz_wg wX6_readOne_0 (j := 3) (n := 182) rfl) (hz_wg wX6_readOne_0 (j := 4) (n := 0) rfl) (hz_wg wX6_readOne_0 (j := 5) (n := 101) rfl) rfl
theorem dX6_readOne_6 : decode cX6_readOne 6 = .ok (.istore_n 2, 1) := dq_61 (hz_wg wX6_readOne_0 (j := 6) (n := 61) rfl)
theorem dX6_readOne_7 : decode cX6_readOne 7 = .ok (.iload_n 2, 1) := dq_28 (hz_wg wX6_readOne_0 (j := 7) (n := 28) rfl)
theorem dX6_readOne_8 : decode cX6_readOne 8 = .ok (.ifCond .ne 17, 3) := dq_154 (hz_wg wX6_readOne_0 (j := 8) (n := 154) rfl) (hz_wg wX6_readOne_0 (j := 9) (n := 0) rfl) (hz_wg wX6_readOne_0 (j := 10) (n := 17) rfl) (by decide)
theorem dX6_readOne_11 : decode cX6_readOne 11 = .ok (.aload_n 0, 1) := dq_42 (hz_wg wX6_readOne_0 (j := 11) (n := 42) rfl)
theorem dX6_readOne_12 : decode cX6_readOne 12 = .ok (.bipush 40, 2) := dq_16 (hz_wg wX6_readOne_0 (j := 12) (n := 16) rfl) (hz_wg wX6_readOne_0 (j := 13) (n := 40) rfl) (by decide)
theorem dX6_readOne_14 : decode cX6_readOne 14 = .ok (.invokevirtual 109, 3) := dq_182 (hz_wg wX6_readOne_0 (j := 14) (n := 182) rfl) (hz_wg wX6_readOne_0 (j := 15) (n := 0) rfl) (hz_wg wX6_readOne_0 (j := 16) (n := 109) rfl) rfl
theorem dX6_readOne_17 : decode cX6_readOne 17 = .ok (.ifCond .ne 8, 3) := dq_154 (hz_wg wX6_readOne_0 (j := 17) (n := 154) rfl) (hz_wg wX6_readOne_0 (j := 18) (n := 0) rfl) (hz_wg wX6_readOne_0 (j := 19) (n := 8) rfl) (by decide)
theorem dX6_readOne_20 : decode cX6_readOne 20 = .ok (.aload_n 0, 1) := dq_42 (hz_wg wX6_readOne_0 (j := 20) (n := 42) rfl)
theorem dX6_readOne_21 : decode cX6_readOne 21 = .ok (.invokevirtual 113, 3) := dq_182 (hz_wg wX6_readOne_0 (j := 21) (n := 182) rfl) (hz_wg wX6_readOne_0 (j := 22) (n := 0) rfl) (hz_wg wX6_readOne_0 (j := 23) (n := 113) rfl) rfl
theorem dX6_readOne_24 : decode cX6_readOne 24 = .ok (.ireturn, 1) := dq_172 (hz_wg wX6_readOne_0 (j := 24) (n := 172) rfl)
theorem dX6_readOne_25 : decode cX6_readOne 25 = .ok (.iload_n 1, 1) := dq_27 (hz_wg wX6_readOne_0 (j := 25) (n := 27) rfl)
theorem dX6_readOne_26 : decode cX6_readOne 26 = .ok (.bipush 8, 2) := dq_16 (hz_wg wX6_readOne_0 (j := 26) (n := 16) rfl) (hz_wg wX6_readOne_0 (j := 27) (n := 8) rfl) (by decide)
theorem dX6_readOne_28 : decode cX6_readOne 28 = .ok (.if_icmp .lt 13, 3) := dq_161 (hz_wg wX6_readOne_0 (j := 28) (n := 161) rfl) (hz_wg wX6_readOne_0 (j := 29) (n := 0) rfl) (hz_wg wX6_readOne_0 (j := 30) (n := 13) rfl) (by decide)
theorem dX6_readOne_31 : decode cX6_readOne 31 = .ok (.aload_n 0, 1) := dq_42 (hz_wg wX6_readOne_0 (j := 31) (n := 42) rfl)
theorem dX6_readOne_32 : decode cX6_readOne 32 = .ok (.aload_n 0, 1) := dq_42 (hz_wg wX6_readOne_0 (j := 32) (n := 42) rfl)
theorem dX6_readOne_33 : decode cX6_readOne 33 = .ok (.getfield 19, 3) := dq_180 (hz_wg wX6_readOne_0 (j := 33) (n := 180) rfl) (hz_wg wX6_readOne_0 (j := 34) (n := 0) rfl) (hz_wg wX6_readOne_0 (j := 35) (n := 19) rfl) rfl
theorem dX6_readOne_36 : decode cX6_readOne 36 = .ok (.iconst 3, 1) := dq_6 (hz_wg wX6_readOne_0 (j := 36) (n := 6) rfl)
theorem dX6_readOne_37 : decode cX6_readOne 37 = .ok (.invokevirtual 45, 3) := dq_182 (hz_wg wX6_readOne_0 (j := 37) (n := 182) rfl) (hz_wg wX6_readOne_0 (j := 38) (n := 0) rfl) (hz_wg wX6_readOne_0 (j := 39) (n := 45) rfl) rfl
theorem dX6_readOne_40 : decode cX6_readOne 40 = .ok (.ireturn, 1) := dq_172 (hz_wg wX6_readOne_0 (j := 40) (n := 172) rfl)
set_option maxHeartbeats 4000000 in
set_option maxRecDepth 100000 in
theorem t_X6_readOne_8 (l : Launch) (dC : Nat → ClassId) (dI : Nat → Nat → Nat) (dA : Nat → ClassId) (L : List Nat) (h : hx_h) (sz : Nat) (b0 : hx_z) (x : Nat) (hT : hx_T T_tb L h) (gx : hx_g L h x 6) (qt : Nat) (gqt : hx_g L h qt 42) (f_x_0 : h.2.2 x 0 = some qt) (qi : Nat) (gqi : hx_g L h qi 0) (f_x_6 : h.2.2 x 6 = some qi) : Met l yX6_readOne (Cond.code yX6_readOne cX6_readOne 3 (some .boolean) :: hx_all) ({ frames := 7, cells := 0, slots := 0, locals := 158 }) (va_Pc [.ref x, .int (8 : Int32)] (hx_BX T_tb (P_ty dA) (dC, dI) vwCl L h sz b0)) (va_Qi (fun (r : Int32) (u : List Nat × hx_h) => (r.toInt = 0 ∨ r.toInt = 1) ∧ hx_T T_tb u.1 u.2 ∧ hx_S T_tb [(0, 4), (6, 2), (6, 3), (6, 5), (12, 0)] L h u.1 u.2) (hx_E T_tb (P_ty dA) (dC, dI) vwCl (hx_A L sz)) (hx_A L sz)) 0 0 (hx_A L sz) := by
  refine hx_metX (lv := [(0, .ref x), (1, .int (8 : Int32))]) (by decide +kernel) rfl (Nat.le_of_ble_eq_true rfl) rfl ?_
  intro p e s m below meth c hx hb hml hr hlk hts0 hown hin hsz hW hZ ls hl
  have hts : ∀ w ∈ hx_all, w.before _ s = true := fun w hw => hts0 w (List.mem_cons_of_mem _ hw)
  have hown : s.vm.findClass "SmallCourt$Reader" = some m.cls := hown
  have hM : hx_S T_tb [(0, 4), (6, 2), (6, 3), (6, 5), (12, 0)] L h L h := hx_S.rf
  obtain ⟨zLT, zLA, zMT, zMA, zCS, zSF, zVS, zVR⟩ := hZ.2.2.2.2.2.2
  refine lv_aload_n hx hb dX6_readOne_0 rfl (lv_at hl 0 rfl) ?_
  refine va_ldcS (tx := P_st.getD 4 "") hx hb hown (zVR 4 (by decide)) dX6_readOne_1 ?_
  refine hx_goi (hx_runVX (As := [.ref (b0.2.2.2.1 4)]) (rest := []) ⟨hx, hb, hml, hown, hts⟩ hW (gx.S hM) tt_6 (T := TX6) (N := 7) rfl (t_X6_isNextWord l dC dI dA L h s.heap.size b0 x 4 hT (gx.S hM) (by decide) qt (gqt.S hM) ((hM.o gx trivial rfl).2.trans f_x_0)) hZ (cwV 1 hts (hx_gV kw_565 kw_562 kw_564 kw_14 kw_95) rfl rfl rfl (by decide +kernel) ⟨Nat.le_of_ble_eq_true rfl, Nat.le_of_ble_eq_true rfl⟩) rfl hl.1 rfl (Nat.le_of_ble_eq_true rfl) dX6_readOne_3 ⟨Nat.le_of_ble_eq_true rfl, Nat.le_of_ble_eq_true rfl⟩) hW (fun r_3 L_1 h_2 H locs p_4 hW => ?_)
  obtain ⟨⟨w_6, fw_6, hr_5⟩, hT, hs⟩ := p_4
  replace hT : hx_T T_tb L_1 h_2 := hT
  replace hs : hx_S T_tb [(6, 2)] L h L_1 h_2 := hs
  replace hM := hM.tr (hs.mono (by decide))
  have fw_6 : h_2.2.1 x 2 = w_6 := fw_6
  have bw_6 := hT.gi (gx.S hM) tt_6 (k := 2) rfl
  rw [fw_6] at bw_6
  have bw_6 : 0 ≤ w_6.toInt ∧ w_6.toInt ≤ 402 := bw_6
  refine lv_istore_n (lv' := [(2, .int r_3), (0, .ref x), (1, .int (8 : Int32))]) hx hb dX6_readOne_6 rfl hl (by decide) rfl (fun ls hl => ?_)
  refine lv_iload_n hx hb dX6_readOne_7 rfl (lv_at hl 0 rfl) ?_
  refine hb_if_ne (zx := r_3.toInt) (tgt := 25) hx hb rfl dX6_readOne_8 (by decide) (fun c_7 => ?_) (fun c_7 => ?_)
  · skip
    refine lv_iload_n hx hb dX6_readOne_25 rfl (lv_at hl 2 rfl) ?_
    refine lv_bipush (v := 8) hx hb dX6_readOne_26 (by decide) ?_
    refine hb_icmp_lt (zx := 8) (zy := 8) (tgt := 41) hx hb (by decide) (by decide) dX6_readOne_28 (by decide) (fun c_8 => absurd c_8 (by decide)) (fun c_8 => ?_)
    refine lv_aload_n hx hb dX6_readOne_31 rfl (lv_at hl 1 rfl) ?_
    refine lv_aload_n hx hb dX6_readOne_32 rfl (lv_at hl 1 rfl) ?_
    refine hk_geti hx hb hts hC_6 hown hW (gx.S hM) tt_6 2 (by decide) rfl kw_127 ⟨rfl, rfl, rfl⟩ fw_6 dX6_readOne_33 ?_
    refine lv_iconst (v := 3) hx hb dX6_readOne_36 (by decide) ?_
    have zc_3 : (3 : Int32).toInt = 3 := by decide
    refine hx_goi (hx_runV (As := [.int w_6, .int (3 : Int32)]) (rest := []) ⟨hx, hb, hml, hown, hts⟩ hW (gx.S hM) tt_6 (T := TX6) (N := 7) rfl (t_X6_refuse l dC dI dA L_1 h_2 H.size x w_6 (3 : Int32) hT (gx.S hM)) (cwV 2 hts (hx_gV kw_527 kw_524 kw_526 kw_6 kw_95) rfl rfl rfl (by decide +kernel) ⟨Nat.le_of_ble_eq_true rfl, Nat.le_of_ble_eq_true rfl⟩) rfl hl.1 rfl (Nat.le_of_ble_eq_true rfl) dX6_readOne_37 ⟨Nat.le_of_ble_eq_true rfl, Nat.le_of_ble_eq_true rfl⟩) hW (fun r_11 L_9 h_10 H locs p_12 hW => ?_)
    obtain ⟨hr_13, hT, hs⟩ := p_12
    replace hT : hx_T T_tb L_9 h_10 := hT
    replace hs : hx_S T_tb [(6, 3)] L_1 h_2 L_9 h_10 := hs
    replace fw_6 := (hs.o (gx.S hM) trivial rfl).1.trans fw_6
    replace hM := hM.tr (hs.mono (by decide))
    exact hx_retz hx hb hr (hx_nar01 (by omega)) hlk hW ⟨(by omega), hT, hM⟩ dX6_readOne_40
  · skip
    refine lv_aload_n hx hb dX6_readOne_11 rfl (lv_at hl 1 rfl) ?_
    refine lv_bipush (v := 40) hx hb dX6_readOne_12 (by decide) ?_
    have zc_40 : (40 : Int32).toInt = 40 := by decide
    refine hx_goi (hx_runV (As := [.int (40 : Int32)]) (rest := []) ⟨hx, hb, hml, hown, hts⟩ hW (gx.S hM) tt_6 (T := TX6) (N := 7) rfl (t_X6_isByte l dC dI dA L_1 h_2 H.size x (40 : Int32) hT (gx.S hM) w_6 fw_6 qt (gqt.S hM) ((hM.o gx trivial rfl).2.trans f_x_0)) (cwV 1 hts (hx_gV kw_569 kw_566 kw_568 kw_15 kw_95) rfl rfl rfl (by decide +kernel) ⟨Nat.le_of_ble_eq_true rfl, Nat.le_of_ble_eq_true rfl⟩) rfl hl.1 rfl (Nat.le_of_ble_eq_true rfl) dX6_readOne_14 ⟨Nat.le_of_ble_eq_true rfl, Nat.le_of_ble_eq_true rfl⟩) hW (fun r_16 L_14 h_15 H locs p_17 hW => ?_)
    obtain ⟨hr_18, hT, hs⟩ := p_17
    replace hT : hx_T T_tb L_14 h_15 := hT
    replace hs : hx_S T_tb [] L_1 h_2 L_14 h_15 := hs
    replace fw_6 := (hs.o (gx.S hM) trivial rfl).1.trans fw_6
    replace hM := hM.tr (hs.mono (by decide))
    refine hb_if_ne (zx := r_16.toInt) (tgt := 25) hx hb rfl dX6_readOne_17 (by decide) (fun c_19 => ?_) (fun c_19 => ?_)
    · skip
      refine lv_iload_n hx hb dX6_readOne_25 rfl (lv_at hl 2 rfl) ?_
      refine lv_bipush (v := 8) hx hb dX6_readOne_26 (by decide) ?_
      refine hb_icmp_lt (zx := 8) (zy := 8) (tgt := 41) hx hb (by decide) (by decide) dX6_readOne_28 (by decide) (fun c_20 => absurd c_20 (by decide)) (fun c_20 => ?_)
      refine lv_aload_n hx hb dX6_readOne_31 rfl (lv_at hl 1 rfl) ?_
      refine lv_aload_n hx hb dX6_readOne_32 rfl (lv_at hl 1 rfl) ?_
      refine hk_geti hx hb hts hC_6 hown hW (gx.S hM) tt_6 2 (by decide) rfl kw_127 ⟨rfl, rfl, rfl⟩ fw_6 dX6_readOne_33 ?_
      refine lv_iconst (v := 3) hx hb dX6_readOne_36 (by decide) ?_
      have zc_3 : (3 : Int32).toInt = 3 := by decide
      refine hx_goi (hx_runV (As := [.int w_6, .int (3 : Int32)]) (rest := []) ⟨hx, hb, hml, hown, hts⟩ hW (gx.S hM) tt_6 (T := TX6) (N := 7) rfl (t_X6_refuse l dC dI dA L_14 h_15 H.size x w_6 (3 : Int32) hT (gx.S hM)) (cwV 2 hts (hx_gV kw_527 kw_524 kw_526 kw_6 kw_95) rfl rfl rfl (by decide +kernel) ⟨Nat.le_of_ble_eq_true rfl, Nat.le_of_ble_eq_true rfl⟩) rfl hl.1 rfl (Nat.le_of_ble_eq_true rfl) dX6_readOne_37 ⟨Nat.le_of_ble_eq_true rfl, Nat.le_of_ble_eq_true rfl⟩) hW (fun r_23 L_21 h_22 H locs p_24 hW => ?_)
      obtain ⟨hr_25, hT, hs⟩ := p_24
      replace hT : hx_T T_tb L_21 h_22 := hT
      replace hs : hx_S T_tb [(6, 3)] L_14 h_15 L_21 h_22 := hs
      replace fw_6 := (hs.o (gx.S hM) trivial rfl).1.trans fw_6
      replace hM := hM.tr (hs.mono (by decide))
      exact hx_retz hx hb hr (hx_nar01 (by omega)) hlk hW ⟨(by omega), hT, hM⟩ dX6_readOne_40
    · skip
      refine lv_aload_n hx hb dX6_readOne_20 rfl (lv_at hl 1 rfl) ?_
      refine hx_goi (hx_runVX (As := []) (rest := []) ⟨hx, hb, hml, hown, hts⟩ hW (gx.S hM) tt_6 (T := TX6) (N := 7) rfl (t_X6_readTerm l dC dI dA L_14 h_15 H.size b0 x hT (gx.S hM) qt (gqt.S hM) ((hM.o gx trivial rfl).2.trans f_x_0) qi (gqi.S hM) ((hM.o gx trivial rfl).2.trans f_x_6)) hZ (cwV 0 hts (hx_gV kw_573 kw_570 kw_572 kw_16 kw_95) rfl rfl rfl (by decide +kernel) ⟨Nat.le_of_ble_eq_true rfl, Nat.le_of_ble_eq_true rfl⟩) rfl hl.1 rfl (Nat.le_of_ble_eq_true rfl) dX6_readOne_21 ⟨Nat.le_of_ble_eq_true rfl, Nat.le_of_ble_eq_true rfl⟩) hW (fun r_28 L_26 h_27 H locs p_29 hW => ?_)
      obtain ⟨hr_30, hT, hs⟩ := p_29
      replace hT : hx_T T_tb L_26 h_27 := hT
      replace hs : hx_S T_tb [(0, 4), (6, 2), (6, 3), (6, 5), (12, 0)] L_14 h_15 L_26 h_27 := hs
      replace hM := hM.tr (hs.mono (by decide))
      exact hx_retz hx hb hr (hx_nar01 (by omega)) hlk hW ⟨(by omega), hT, hM⟩ dX6_readOne_24

def wLX6_readEither_0 : List Nat := [3, 61, 3, 62, 3, 54, 4, 21, 4, 42, 180, 0, 15, 163, 0, 89, 42, 27, 182, 0, 92, 153, 0, 81, 28, 153, 0, 11, 42, 180, 0, 31, 2, 182, 0, 95, 42, 18, 99, 182, 0, 101, 61, 28, 153, 0, 16, 42, 89, 180, 0, 19, 6, 96, 181, 0, 19, 167, 0, 39, 29, 153, 0, 12]
def wLX6_readEither_1 : List Nat := [42, 180, 0, 31, 16, 254, 182, 0, 95, 42, 18, 105, 182, 0, 101, 62, 29, 154, 0, 5, 4, 172, 42, 89, 180, 0, 19, 5, 96, 181, 0, 19, 132, 4, 1, 167, 255, 164, 3, 172]
theorem wX6_readEither_0 : (cX6_readEither.data.toList.map UInt8.toNat).drop 0 = wLX6_readEither_0 ++ (wLX6_readEither_1 ++ ([])) := by decide +kernel
theorem wX6_readEither_1 : (cX6_readEither.data.toList.map UInt8.toNat).drop 64 = wLX6_readEither_1 ++ ([]) := hz_wn wX6_readEither_0 rfl
theorem dX6_readEither_0 : decode cX6_readEither 0 = .ok (.iconst 0, 1) := dq_3 (hz_wg wX6_readEither_0 (j := 0) (n := 3) rfl)
theorem dX6_readEither_1 : decode cX6_readEither 1 = .ok (.istore_n 2, 1) := dq_61 (hz_wg wX6_readEither_0 (j := 1) (n := 61) rfl)
theorem dX6_readEither_2 : decode cX6_readEither 2 = .ok (.iconst 0, 1) := dq_3 (hz_wg wX6_readEither_0 (j := 2) (n := 3) rfl)
theorem dX6_readEither_3 : decode cX6_readEither 3 = .ok (.istore_n 3, 1) := dq_62 (hz_wg wX6_readEither_0 (j := 3) (n := 62) rfl)
theorem dX6_readEither_4 : decode cX6_readEither 4 = .ok (.iconst 0, 1) := dq_3 (hz_wg wX6_readEither_0 (j := 4) (n := 3) rfl)
theorem dX6_readEither_5 : decode cX6_readEither 5 = .ok (.istore 4, 2) := dq_54 (hz_wg wX6_readEither_0 (j := 5) (n := 54) rfl) (hz_wg wX6_readEither_0 (j := 6) (n := 4) rfl)
theorem dX6_readEither_7 : decode cX6_readEither 7 = .ok (.iload 4, 2) := dq_21 (hz_wg wX6_readEither_0 (j := 7) (n := 21) rfl) (hz_wg wX6_readEither_0 (j := 8) (n := 4) rfl)
theorem dX6_readEither_9 : decode cX6_readEither 9 = .ok (.aload_n 0, 1) := dq_42 (hz_wg wX6_readEither_0 (j := 9) (n := 42) rfl)
theorem dX6_readEither_10 : decode cX6_readEither 10 = .ok (.getfield 15, 3) := dq_180 (hz_wg wX6_readEither_0 (j := 10) (n := 180) rfl) (hz_wg wX6_readEither_0 (j := 11) (n := 0) rfl) (hz_wg wX6_readEither_0 (j := 12) (n := 15) rfl) rfl
theorem dX6_readEither_13 : decode cX6_readEither 13 = .ok (.if_icmp .gt 89, 3) := dq_163 (hz_wg wX6_readEither_0 (j := 13) (n := 163) rfl) (hz_wg wX6_readEither_0 (j := 14) (n := 0) rfl) (hz_wg wX6_readEither_0 (j := 15) (n := 89) rfl) (by decide)
theorem dX6_readEither_16 : decode cX6_readEither 16 = .ok (.aload_n 0, 1) := dq_42 (hz_wg wX6_readEither_0 (j := 16) (n := 42) rfl)
theorem dX6_readEither_17 : decode cX6_readEither 17 = .ok (.iload_n 1, 1) := dq_27 (hz_wg wX6_readEither_0 (j := 17) (n := 27) rfl)
theorem dX6_readEither_18 : decode cX6_readEither 18 = .ok (.invokevirtual 92, 3) := dq_182 (hz_wg wX6_readEither_0 (j := 18) (n := 182) rfl) (hz_wg wX6_readEither_0 (j := 19) (n := 0) rfl) (hz_wg wX6_readEither_0 (j := 20) (n := 92) rfl) rfl
theorem dX6_readEither_21 : decode cX6_readEither 21 = .ok (.ifCond .eq 81, 3) := dq_153 (hz_wg wX6_readEither_0 (j := 21) (n := 153) rfl) (hz_wg wX6_readEither_0 (j := 22) (n := 0) rfl) (hz_wg wX6_readEither_0 (j := 23) (n := 81) rfl) (by decide)
theorem dX6_readEither_24 : decode cX6_readEither 24 = .ok (.iload_n 2, 1) := dq_28 (hz_wg wX6_readEither_0 (j := 24) (n := 28) rfl)
theorem dX6_readEither_25 : decode cX6_readEither 25 = .ok (.ifCond .eq 11, 3) := dq_153 (hz_wg wX6_readEither_0 (j := 25) (n := 153) rfl) (hz_wg wX6_readEither_0 (j := 26) (n := 0) rfl) (hz_wg wX6_readEither_0 (j := 27) (n := 11) rfl) (by decide)
theorem dX6_readEither_28 : decode cX6_readEither 28 = .ok (.aload_n 0, 1) := dq_42 (hz_wg wX6_readEither_0 (j := 28) (n := 42) rfl)
theorem dX6_readEither_29 : decode cX6_readEither 29 = .ok (.getfield 31, 3) := dq_180 (hz_wg wX6_readEither_0 (j := 29) (n := 180) rfl) (hz_wg wX6_readEither_0 (j := 30) (n := 0) rfl) (hz_wg wX6_readEither_0 (j := 31) (n := 31) rfl) rfl
theorem dX6_readEither_32 : decode cX6_readEither 32 = .ok (.iconst (-1), 1) := dq_2 (hz_wg wX6_readEither_0 (j := 32) (n := 2) rfl)
theorem dX6_readEither_33 : decode cX6_readEither 33 = .ok (.invokevirtual 95, 3) := dq_182 (hz_wg wX6_readEither_0 (j := 33) (n := 182) rfl) (hz_wg wX6_readEither_0 (j := 34) (n := 0) rfl) (hz_wg wX6_readEither_0 (j := 35) (n := 95) rfl) rfl
theorem dX6_readEither_36 : decode cX6_readEither 36 = .ok (.aload_n 0, 1) := dq_42 (hz_wg wX6_readEither_0 (j := 36) (n := 42) rfl)
theorem dX6_readEither_37 : decode cX6_readEither 37 = .ok (.ldc 99, 2) := dq_18 (hz_wg wX6_readEither_0 (j := 37) (n := 18) rfl) (hz_wg wX6_readEither_0 (j := 38) (n := 99) rfl)
theorem dX6_readEither_39 : decode cX6_readEither 39 = .ok (.invokevirtual 101, 3) := dq_182 (hz_wg wX6_readEither_0 (j := 39) (n := 182) rfl) (hz_wg wX6_readEither_0 (j := 40) (n := 0) rfl) (hz_wg wX6_readEither_0 (j := 41) (n := 101) rfl) rfl
theorem dX6_readEither_42 : decode cX6_readEither 42 = .ok (.istore_n 2, 1) := dq_61 (hz_wg wX6_readEither_0 (j := 42) (n := 61) rfl)
theorem dX6_readEither_43 : decode cX6_readEither 43 = .ok (.iload_n 2, 1) := dq_28 (hz_wg wX6_readEither_0 (j := 43) (n := 28) rfl)
theorem dX6_readEither_44 : decode cX6_readEither 44 = .ok (.ifCond .eq 16, 3) := dq_153 (hz_wg wX6_readEither_0 (j := 44) (n := 153) rfl) (hz_wg wX6_readEither_0 (j := 45) (n := 0) rfl) (hz_wg wX6_readEither_0 (j := 46) (n := 16) rfl) (by decide)
theorem dX6_readEither_47 : decode cX6_readEither 47 = .ok (.aload_n 0, 1) := dq_42 (hz_wg wX6_readEither_0 (j := 47) (n := 42) rfl)
theorem dX6_readEither_48 : decode cX6_readEither 48 = .ok (.dup, 1) := dq_89 (hz_wg wX6_readEither_0 (j := 48) (n := 89) rfl)
theorem dX6_readEither_49 : decode cX6_readEither 49 = .ok (.getfield 19, 3) := dq_180 (hz_wg wX6_readEither_0 (j := 49) (n := 180) rfl) (hz_wg wX6_readEither_0 (j := 50) (n := 0) rfl) (hz_wg wX6_readEither_0 (j := 51) (n := 19) rfl) rfl
theorem dX6_readEither_52 : decode cX6_readEither 52 = .ok (.iconst 3, 1) := dq_6 (hz_wg wX6_readEither_0 (j := 52) (n := 6) rfl)
theorem dX6_readEither_53 : decode cX6_readEither 53 = .ok (.iadd, 1) := dq_96 (hz_wg wX6_readEither_0 (j := 53) (n := 96) rfl)
theorem dX6_readEither_54 : decode cX6_readEither 54 = .ok (.putfield 19, 3) := dq_181 (hz_wg wX6_readEither_0 (j := 54) (n := 181) rfl) (hz_wg wX6_readEither_0 (j := 55) (n := 0) rfl) (hz_wg wX6_readEither_0 (j := 56) (n := 19) rfl) rfl
theorem dX6_readEither_57 : decode cX6_readEither 57 = .ok (.goto 39, 3) := dq_167 (hz_wg wX6_readEither_0 (j := 57) (n := 167) rfl) (hz_wg wX6_readEither_0 (j := 58) (n := 0) rfl) (hz_wg wX6_readEither_0 (j := 59) (n := 39) rfl) (by decide)
theorem dX6_readEither_60 : decode cX6_readEither 60 = .ok (.iload_n 3, 1) := dq_29 (hz_wg wX6_readEither_0 (j := 60) (n := 29) rfl)
theorem dX6_readEither_61 : decode cX6_readEither 61 = .ok (.ifCond .eq 12, 3) := dq_153 (hz_wg wX6_readEither_0 (j := 61) (n := 153) rfl) (hz_wg wX6_readEither_0 (j := 62) (n := 0) rfl) (hz_wg wX6_readEither_0 (j := 63) (n := 12) rfl) (by decide)
theorem dX6_readEither_64 : decode cX6_readEither 64 = .ok (.aload_n 0, 1) := dq_42 (hz_wg wX6_readEither_1 (j := 0) (n := 42) rfl)
theorem dX6_readEither_65 : decode cX6_readEither 65 = .ok (.getfield 31, 3) := dq_180 (hz_wg wX6_readEither_1 (j := 1) (n := 180) rfl) (hz_wg wX6_readEither_1 (j := 2) (n := 0) rfl) (hz_wg wX6_readEither_1 (j := 3) (n := 31) rfl) rfl
theorem dX6_readEither_68 : decode cX6_readEither 68 = .ok (.bipush (-2), 2) := dq_16 (hz_wg wX6_readEither_1 (j := 4) (n := 16) rfl) (hz_wg wX6_readEither_1 (j := 5) (n := 254) rfl) (by decide)
theorem dX6_readEither_70 : decode cX6_readEither 70 = .ok (.invokevirtual 95, 3) := dq_182 (hz_wg wX6_readEither_1 (j := 6) (n := 182) rfl) (hz_wg wX6_readEither_1 (j := 7) (n := 0) rfl) (hz_wg wX6_readEither_1 (j := 8) (n := 95) rfl) rfl
theorem dX6_readEither_73 : decode cX6_readEither 73 = .ok (.aload_n 0, 1) := dq_42 (hz_wg wX6_readEither_1 (j := 9) (n := 42) rfl)
theorem dX6_readEither_74 : decode cX6_readEither 74 = .ok (.ldc 105, 2) := dq_18 (hz_wg wX6_readEither_1 (j := 10) (n := 18) rfl) (hz_wg wX6_readEither_1 (j := 11) (n := 105) rfl)
theorem dX6_readEither_76 : decode cX6_readEither 76 = .ok (.invokevirtual 101, 3) := dq_182 (hz_wg wX6_readEither_1 (j := 12) (n := 182) rfl) (hz_wg wX6_readEither_1 (j := 13) (n := 0) rfl) (hz_wg wX6_readEither_1 (j := 14) (n := 101) rfl) rfl
theorem dX6_readEither_79 : decode cX6_readEither 79 = .ok (.istore_n 3, 1) := dq_62 (hz_wg wX6_readEither_1 (j := 15) (n := 62) rfl)
theorem dX6_readEither_80 : decode cX6_readEither 80 = .ok (.iload_n 3, 1) := dq_29 (hz_wg wX6_readEither_1 (j := 16) (n := 29) rfl)
theorem dX6_readEither_81 : decode cX6_readEither 81 = .ok (.ifCond .ne 5, 3) := dq_154 (hz_wg wX6_readEither_1 (j := 17) (n := 154) rfl) (hz_wg wX6_readEither_1 (j := 18) (n := 0) rfl) (hz_wg wX6_readEither_1 (j := 19) (n := 5) rfl) (by decide)
theorem dX6_readEither_84 : decode cX6_readEither 84 = .ok (.iconst 1, 1) := dq_4 (hz_wg wX6_readEither_1 (j := 20) (n := 4) rfl)
theorem dX6_readEither_85 : decode cX6_readEither 85 = .ok (.ireturn, 1) := dq_172 (hz_wg wX6_readEither_1 (j := 21) (n := 172) rfl)
theorem dX6_readEither_86 : decode cX6_readEither 86 = .ok (.aload_n 0, 1) := dq_42 (hz_wg wX6_readEither_1 (j := 22) (n := 42) rfl)
theorem dX6_readEither_87 : decode cX6_readEither 87 = .ok (.dup, 1) := dq_89 (hz_wg wX6_readEither_1 (j := 23) (n := 89) rfl)
theorem dX6_readEither_88 : decode cX6_readEither 88 = .ok (.getfield 19, 3) := dq_180 (hz_wg wX6_readEither_1 (j := 24) (n := 180) rfl) (hz_wg wX6_readEither_1 (j := 25) (n := 0) rfl) (hz_wg wX6_readEither_1 (j := 26) (n := 19) rfl) rfl
theorem dX6_readEither_91 : decode cX6_readEither 91 = .ok (.iconst 2, 1) := dq_5 (hz_wg wX6_readEither_1 (j := 27) (n := 5) rfl)
theorem dX6_readEither_92 : decode cX6_readEither 92 = .ok (.iadd, 1) := dq_96 (hz_wg wX6_readEither_1 (j := 28) (n := 96) rfl)
theorem dX6_readEither_93 : decode cX6_readEither 93 = .ok (.putfield 19, 3) := dq_181 (hz_wg wX6_readEither_1 (j := 29) (n := 181) rfl) (hz_wg wX6_readEither_1 (j := 30) (n := 0) rfl) (hz_wg wX6_readEither_1 (j := 31) (n := 19) rfl) rfl
theorem dX6_readEither_96 : decode cX6_readEither 96 = .ok (.iinc 4 1, 3) := dq_132 (hz_wg wX6_readEither_1 (j := 32) (n := 132) rfl) (hz_wg wX6_readEither_1 (j := 33) (n := 4) rfl) (hz_wg wX6_readEither_1 (j := 34) (n := 1) rfl) (by decide)
theorem dX6_readEither_99 : decode cX6_readEither 99 = .ok (.goto (-92), 3) := dq_167 (hz_wg wX6_readEither_1 (j := 35) (n := 167) rfl) (hz_wg wX6_readEither_1 (j := 36) (n := 255) rfl) (hz_wg wX6_readEither_1 (j := 37) (n := 164) rfl) (by decide)
theorem dX6_readEither_102 : decode cX6_readEither 102 = .ok (.iconst 0, 1) := dq_3 (hz_wg wX6_readEither_1 (j := 38) (n := 3) rfl)
theorem dX6_readEither_103 : decode cX6_readEither 103 = .ok (.ireturn, 1) := dq_172 (hz_wg wX6_readEither_1 (j := 39) (n := 172) rfl)
set_option maxHeartbeats 4000000 in
set_option maxRecDepth 100000 in
theorem t_X6_readEither_8 (l : Launch) (dC : Nat → ClassId) (dI : Nat → Nat → Nat) (dA : Nat → ClassId) (L : List Nat) (h : hx_h) (sz : Nat) (b0 : hx_z) (x : Nat) (hT : hx_T T_tb L h) (gx : hx_g L h x 6) (qt : Nat) (gqt : hx_g L h qt 42) (f_x_0 : h.2.2 x 0 = some qt) (qi : Nat) (gqi : hx_g L h qi 0) (f_x_6 : h.2.2 x 6 = some qi) : Met l yX6_readEither (Cond.code yX6_readEither cX6_readEither 5 (some .boolean) :: hx_all) ({ frames := 8, cells := 0, slots := 0, locals := 180 }) (va_Pc [.ref x, .int (8 : Int32)] (hx_BX T_tb (P_ty dA) (dC, dI) vwCl L h sz b0)) (va_Qi (fun (r : Int32) (u : List Nat × hx_h) => (r.toInt = 0 ∨ r.toInt = 1) ∧ hx_T T_tb u.1 u.2 ∧ hx_S T_tb [(0, 4), (6, 2), (6, 3), (6, 5), (12, 0)] L h u.1 u.2) (hx_E T_tb (P_ty dA) (dC, dI) vwCl (hx_A L sz)) (hx_A L sz)) 0 0 (hx_A L sz) := by
  refine hx_metX (lv := [(0, .ref x), (1, .int (8 : Int32))]) (by decide +kernel) rfl (Nat.le_of_ble_eq_true rfl) rfl ?_
  intro p e s m below meth c hx hb hml hr hlk hts0 hown hin hsz hW hZ ls hl
  have hts : ∀ w ∈ hx_all, w.before _ s = true := fun w hw => hts0 w (List.mem_cons_of_mem _ hw)
  have hown : s.vm.findClass "SmallCourt$Reader" = some m.cls := hown
  have hM : hx_S T_tb [(0, 4), (6, 2), (6, 3), (6, 5), (12, 0)] L h L h := hx_S.rf
  obtain ⟨zLT, zLA, zMT, zMA, zCS, zSF, zVS, zVR⟩ := hZ.2.2.2.2.2.2
  refine lv_iconst (v := 0) hx hb dX6_readEither_0 (by decide) ?_
  refine lv_istore_n (lv' := [(2, .int (0 : Int32)), (0, .ref x), (1, .int (8 : Int32))]) hx hb dX6_readEither_1 rfl hl (by decide) rfl (fun ls hl => ?_)
  refine lv_iconst (v := 0) hx hb dX6_readEither_2 (by decide) ?_
  refine lv_istore_n (lv' := [(3, .int (0 : Int32)), (2, .int (0 : Int32)), (0, .ref x), (1, .int (8 : Int32))]) hx hb dX6_readEither_3 rfl hl (by decide) rfl (fun ls hl => ?_)
  refine lv_iconst (v := 0) hx hb dX6_readEither_4 (by decide) ?_
  refine lv_istore (lv' := [(4, .int (0 : Int32)), (3, .int (0 : Int32)), (2, .int (0 : Int32)), (0, .ref x), (1, .int (8 : Int32))]) hx hb dX6_readEither_5 hl (by decide) rfl (fun ls hl => ?_)
  have loop7 : ∀ (n7 : Nat) (iv7_2 iv7_3 iv7_4 : Int32) (H : Heap) (locs : List Loc) (hL1 : List Nat) (hl1 : hx_h), 0 ≤ iv7_2.toInt → iv7_2.toInt ≤ 1 → 0 ≤ iv7_3.toInt → iv7_3.toInt ≤ 1 → 0 ≤ iv7_4.toInt → iv7_4.toInt ≤ 401 → ∀ (ls : Array Slot), 401 - iv7_4.toInt < (n7 : Int) → hx_W T_tb (P_ty dA) (dC, dI) vwCl (hx_A L sz) s.heap hL1 hl1 s H locs → hx_T T_tb hL1 hl1 → hx_S T_tb [(0, 4), (6, 2), (6, 3), (6, 5), (12, 0)] L h hL1 hl1 → lv_has ls 5 [(4, .int iv7_4), (3, .int iv7_3), (2, .int iv7_2), (0, .ref x), (1, .int (8 : Int32))] → W p l e ({ frames := 8, cells := 0, slots := 0, locals := 180 }) s m ([.ref x, .int (8 : Int32)] : List Value).toArray below meth c H locs 0 0 (MQ below (va_Qi (fun (r : Int32) (u : List Nat × hx_h) => (r.toInt = 0 ∨ r.toInt = 1) ∧ hx_T T_tb u.1 u.2 ∧ hx_S T_tb [(0, 4), (6, 2), (6, 3), (6, 5), (12, 0)] L h u.1 u.2) (hx_E T_tb (P_ty dA) (dC, dI) vwCl (hx_A L sz)) (hx_A L sz)) ([.ref x, .int (8 : Int32)] : List Value).toArray s 0 0 (hx_A L sz)) (F0 m 7 ls []) := by
    intro n7
    induction n7 with
    | zero => intro iv7_2 iv7_3 iv7_4 H locs hL1 hl1 bliv7_2 buiv7_2 bliv7_3 buiv7_3 bliv7_4 buiv7_4  ls hn7; exfalso; omega
    | succ n7 ih7 =>
      intro iv7_2 iv7_3 iv7_4 H locs hL1 hl1 bliv7_2 buiv7_2 bliv7_3 buiv7_3 bliv7_4 buiv7_4  ls hn7 hW hT hM   hl
      refine lv_iload hx hb dX6_readEither_7 (lv_at hl 0 rfl) ?_
      refine lv_aload_n hx hb dX6_readEither_9 rfl (lv_at hl 3 rfl) ?_
      refine hx_geti hx hb hts hC_6 hown hW hT (gx.S hM) tt_6 1 (by decide) rfl kw_126 ⟨rfl, rfl, rfl⟩ dX6_readEither_10 (fun x_1 ex_1 lx_1 ux_1 => ?_)
      have fx_1 := ex_1.symm
      refine hb_icmp_gt (zx := iv7_4.toInt) (zy := x_1.toInt) (tgt := 102) hx hb rfl rfl dX6_readEither_13 (by decide) (fun c_2 => ?_) (fun c_2 => ?_)
      · skip
        refine lv_iconst (v := 0) hx hb dX6_readEither_102 (by decide) ?_
        exact hx_retz hx hb hr rfl hlk hW ⟨(by decide), hT, hM⟩ dX6_readEither_103
      · skip
        refine lv_aload_n hx hb dX6_readEither_16 rfl (lv_at hl 3 rfl) ?_
        refine lv_iload_n hx hb dX6_readEither_17 rfl (lv_at hl 4 rfl) ?_
        have zc_8 : (8 : Int32).toInt = 8 := by decide
        refine hx_goi (hx_runVX (As := [.int (8 : Int32)]) (rest := []) ⟨hx, hb, hml, hown, hts⟩ hW (gx.S hM) tt_6 (T := TX6) (N := 7) rfl (t_X6_readOne_8 l dC dI dA hL1 hl1 H.size b0 x hT (gx.S hM) qt (gqt.S hM) ((hM.o gx trivial rfl).2.trans f_x_0) qi (gqi.S hM) ((hM.o gx trivial rfl).2.trans f_x_6)) hZ (cwV 1 hts (hx_gV kw_560 kw_557 kw_559 kw_13 kw_95) rfl rfl rfl (by decide +kernel) ⟨Nat.le_of_ble_eq_true rfl, Nat.le_of_ble_eq_true rfl⟩) rfl hl.1 rfl (Nat.le_of_ble_eq_true rfl) dX6_readEither_18 ⟨Nat.le_of_ble_eq_true rfl, Nat.le_of_ble_eq_true rfl⟩) hW (fun r_5 L_3 h_4 H locs p_6 hW => ?_)
        obtain ⟨hr_7, hT, hs⟩ := p_6
        replace hT : hx_T T_tb L_3 h_4 := hT
        replace hs : hx_S T_tb [(0, 4), (6, 2), (6, 3), (6, 5), (12, 0)] hL1 hl1 L_3 h_4 := hs
        replace fx_1 := (hs.o (gx.S hM) trivial rfl).1.trans fx_1
        replace hM := hM.tr (hs.mono (by decide))
        refine hb_if_eq (zx := r_5.toInt) (tgt := 102) hx hb rfl dX6_readEither_21 (by decide) (fun c_8 => ?_) (fun c_8 => ?_)
        · skip
          refine lv_iconst (v := 0) hx hb dX6_readEither_102 (by decide) ?_
          exact hx_retz hx hb hr rfl hlk hW ⟨(by decide), hT, hM⟩ dX6_readEither_103
        · skip
          refine lv_iload_n hx hb dX6_readEither_24 rfl (lv_at hl 2 rfl) ?_
          refine hb_if_eq (zx := iv7_2.toInt) (tgt := 36) hx hb rfl dX6_readEither_25 (by decide) (fun c_9 => ?_) (fun c_9 => ?_)
          · skip
            refine lv_aload_n hx hb dX6_readEither_36 rfl (lv_at hl 3 rfl) ?_
            refine va_ldcS (tx := P_st.getD 2 "") hx hb hown (zVR 2 (by decide)) dX6_readEither_37 ?_
            refine hx_goi (hx_runVX (As := [.ref (b0.2.2.2.1 2)]) (rest := []) ⟨hx, hb, hml, hown, hts⟩ hW (gx.S hM) tt_6 (T := TX6) (N := 7) rfl (t_X6_isNextWord l dC dI dA L_3 h_4 H.size b0 x 2 hT (gx.S hM) (by decide) qt (gqt.S hM) ((hM.o gx trivial rfl).2.trans f_x_0)) hZ (cwV 1 hts (hx_gV kw_565 kw_562 kw_564 kw_14 kw_95) rfl rfl rfl (by decide +kernel) ⟨Nat.le_of_ble_eq_true rfl, Nat.le_of_ble_eq_true rfl⟩) rfl hl.1 rfl (Nat.le_of_ble_eq_true rfl) dX6_readEither_39 ⟨Nat.le_of_ble_eq_true rfl, Nat.le_of_ble_eq_true rfl⟩) hW (fun r_12 L_10 h_11 H locs p_13 hW => ?_)
            obtain ⟨⟨w_15, fw_15, hr_14⟩, hT, hs⟩ := p_13
            replace hT : hx_T T_tb L_10 h_11 := hT
            replace hs : hx_S T_tb [(6, 2)] L_3 h_4 L_10 h_11 := hs
            replace fx_1 := (hs.o (gx.S hM) trivial rfl).1.trans fx_1
            replace hM := hM.tr (hs.mono (by decide))
            have fw_15 : h_11.2.1 x 2 = w_15 := fw_15
            have bw_15 := hT.gi (gx.S hM) tt_6 (k := 2) rfl
            rw [fw_15] at bw_15
            have bw_15 : 0 ≤ w_15.toInt ∧ w_15.toInt ≤ 402 := bw_15
            refine lv_istore_n (lv' := [(2, .int r_12), (4, .int iv7_4), (3, .int iv7_3), (0, .ref x), (1, .int (8 : Int32))]) hx hb dX6_readEither_42 rfl hl (by decide) rfl (fun ls hl => ?_)
            refine lv_iload_n hx hb dX6_readEither_43 rfl (lv_at hl 0 rfl) ?_
            refine hb_if_eq (zx := r_12.toInt) (tgt := 60) hx hb rfl dX6_readEither_44 (by decide) (fun c_16 => ?_) (fun c_16 => ?_)
            · skip
              refine lv_iload_n hx hb dX6_readEither_60 rfl (lv_at hl 2 rfl) ?_
              refine hb_if_eq (zx := iv7_3.toInt) (tgt := 73) hx hb rfl dX6_readEither_61 (by decide) (fun c_17 => ?_) (fun c_17 => ?_)
              · skip
                refine lv_aload_n hx hb dX6_readEither_73 rfl (lv_at hl 3 rfl) ?_
                refine va_ldcS (tx := P_st.getD 3 "") hx hb hown (zVR 3 (by decide)) dX6_readEither_74 ?_
                refine hx_goi (hx_runVX (As := [.ref (b0.2.2.2.1 3)]) (rest := []) ⟨hx, hb, hml, hown, hts⟩ hW (gx.S hM) tt_6 (T := TX6) (N := 7) rfl (t_X6_isNextWord l dC dI dA L_10 h_11 H.size b0 x 3 hT (gx.S hM) (by decide) qt (gqt.S hM) ((hM.o gx trivial rfl).2.trans f_x_0)) hZ (cwV 1 hts (hx_gV kw_565 kw_562 kw_564 kw_14 kw_95) rfl rfl rfl (by decide +kernel) ⟨Nat.le_of_ble_eq_true rfl, Nat.le_of_ble_eq_true rfl⟩) rfl hl.1 rfl (Nat.le_of_ble_eq_true rfl) dX6_readEither_76 ⟨Nat.le_of_ble_eq_true rfl, Nat.le_of_ble_eq_true rfl⟩) hW (fun r_20 L_18 h_19 H locs p_21 hW => ?_)
                obtain ⟨⟨w_23, fw_23, hr_22⟩, hT, hs⟩ := p_21
                replace hT : hx_T T_tb L_18 h_19 := hT
                replace hs : hx_S T_tb [(6, 2)] L_10 h_11 L_18 h_19 := hs
                replace fx_1 := (hs.o (gx.S hM) trivial rfl).1.trans fx_1
                replace hM := hM.tr (hs.mono (by decide))
                have fw_23 : h_19.2.1 x 2 = w_23 := fw_23
                have bw_23 := hT.gi (gx.S hM) tt_6 (k := 2) rfl
                rw [fw_23] at bw_23
                have bw_23 : 0 ≤ w_23.toInt ∧ w_23.toInt ≤ 402 := bw_23
                refine lv_istore_n (lv' := [(3, .int r_20), (2, .int r_12), (4, .int iv7_4), (0, .ref x), (1, .int (8 : Int32))]) hx hb dX6_readEither_79 rfl hl (by decide) rfl (fun ls hl => ?_)
                refine lv_iload_n hx hb dX6_readEither_80 rfl (lv_at hl 0 rfl) ?_
                refine hb_if_ne (zx := r_20.toInt) (tgt := 86) hx hb rfl dX6_readEither_81 (by decide) (fun c_24 => ?_) (fun c_24 => ?_)
                · skip
                  refine lv_aload_n hx hb dX6_readEither_86 rfl (lv_at hl 3 rfl) ?_
                  refine lv_dup hx hb dX6_readEither_87 rfl ?_
                  refine hk_geti hx hb hts hC_6 hown hW (gx.S hM) tt_6 2 (by decide) rfl kw_127 ⟨rfl, rfl, rfl⟩ fw_23 dX6_readEither_88 ?_
                  refine lv_iconst (v := 2) hx hb dX6_readEither_91 (by decide) ?_
                  refine lv_iadd hx hb dX6_readEither_92 ?_
                  have rg_25 := i32_r w_23
                  refine lv_topi (fun x_26 ex_26 => ?_)
                  have zx_26 : x_26.toInt = w_23.toInt + 2 := by rw [ex_26]; exact i32_add rfl (by decide) (by omega) (by omega)
                  refine hx_puti hx hb hts hC_6 hown hW hT (hx_S.rf (M := [(6, 2)])) (gx.S hM) tt_6 2 (by decide) rfl kw_127 ⟨rfl, rfl, rfl⟩ rfl (x := x_26) ⟨by omega, by omega⟩ rfl rfl rfl (List.mem_singleton.mpr rfl) dX6_readEither_93 (fun H locs h_27 eh_27 hW hT hs => ?_)
                  replace fx_1 := (hs.o (gx.S hM) trivial rfl).1.trans fx_1
                  replace hM := hM.tr (hs.mono (by decide))
                  have f_28 : h_27.2.1 x 2 = x_26 := by rw [eh_27]; exact hx_pi_at _ _ _ _
                  obtain ⟨x_29, ex_29⟩ : ∃ y : Int32, y = iv7_4 + Int32.ofInt 1 := ⟨_, rfl⟩
                  have rg_30 := i32_r iv7_4
                  have zx_29 : x_29.toInt = iv7_4.toInt + (1) := by rw [ex_29]; exact i32_add rfl (by decide) (by omega) (by omega)
                  refine lv_iinc (v := x_29) (lv' := [(4, .int x_29), (3, .int r_20), (2, .int r_12), (0, .ref x), (1, .int (8 : Int32))]) hx hb dX6_readEither_96 hl (k := 2) rfl ex_29.symm (by decide) rfl (fun ls hl => ?_)
                  refine lv_goto (tgt := 7) hx hb dX6_readEither_99 (by decide) ?_
                  exact ih7 r_12 r_20 x_29 _ _ L_18 h_27 (by omega) (by omega) (by omega) (by omega) (by omega) (by omega)  ls (by omega) hW hT hM   (lv_sub hl [0, 1, 2, 3, 4] rfl)
                · skip
                  refine lv_iconst (v := 1) hx hb dX6_readEither_84 (by decide) ?_
                  exact hx_retz hx hb hr rfl hlk hW ⟨(by decide), hT, hM⟩ dX6_readEither_85
              · skip
                refine lv_aload_n hx hb dX6_readEither_64 rfl (lv_at hl 3 rfl) ?_
                refine hk_getr hx hb hts hC_6 hown hW (gx.S hM) tt_6 6 (by decide) rfl kw_131 ⟨rfl, rfl, rfl⟩ ((hM.o gx trivial rfl).2.trans f_x_6) dX6_readEither_65 ?_
                refine lv_bipush (v := -2) hx hb dX6_readEither_68 (by decide) ?_
                have zc_m2 : (-2 : Int32).toInt = -2 := by decide
                refine hx_gov (hx_runV (As := [.int (-2 : Int32)]) (rest := []) ⟨hx, hb, hml, hown, hts⟩ hW (gqi.S hM) tt_0 (T := TX0) (N := 5) rfl (t_X0_addProof l dC dI dA L_10 h_11 H.size qi (-2 : Int32) hT (gqi.S hM)) (cwV 1 hts (hx_gV kw_583 kw_580 kw_581 kw_582 kw_96) rfl rfl rfl (by decide +kernel) ⟨Nat.le_of_ble_eq_true rfl, Nat.le_of_ble_eq_true rfl⟩) rfl hl.1 rfl (Nat.le_of_ble_eq_true rfl) dX6_readEither_70 ⟨Nat.le_of_ble_eq_true rfl, Nat.le_of_ble_eq_true rfl⟩) hW (fun L_31 h_32 H locs p_34 hW => ?_)
                obtain ⟨hT, hs⟩ := p_34
                replace hT : hx_T T_tb L_31 h_32 := hT
                replace hs : hx_S T_tb [(0, 4), (12, 0)] L_10 h_11 L_31 h_32 := hs
                replace fx_1 := (hs.o (gx.S hM) trivial rfl).1.trans fx_1
                replace fw_15 := (hs.o (gx.S hM) trivial rfl).1.trans fw_15
                replace hM := hM.tr (hs.mono (by decide))
                refine lv_aload_n hx hb dX6_readEither_73 rfl (lv_at hl 3 rfl) ?_
                refine va_ldcS (tx := P_st.getD 3 "") hx hb hown (zVR 3 (by decide)) dX6_readEither_74 ?_
                refine hx_goi (hx_runVX (As := [.ref (b0.2.2.2.1 3)]) (rest := []) ⟨hx, hb, hml, hown, hts⟩ hW (gx.S hM) tt_6 (T := TX6) (N := 7) rfl (t_X6_isNextWord l dC dI dA L_31 h_32 H.size b0 x 3 hT (gx.S hM) (by decide) qt (gqt.S hM) ((hM.o gx trivial rfl).2.trans f_x_0)) hZ (cwV 1 hts (hx_gV kw_565 kw_562 kw_564 kw_14 kw_95) rfl rfl rfl (by decide +kernel) ⟨Nat.le_of_ble_eq_true rfl, Nat.le_of_ble_eq_true rfl⟩) rfl hl.1 rfl (Nat.le_of_ble_eq_true rfl) dX6_readEither_76 ⟨Nat.le_of_ble_eq_true rfl, Nat.le_of_ble_eq_true rfl⟩) hW (fun r_38 L_36 h_37 H locs p_39 hW => ?_)
                obtain ⟨⟨w_41, fw_41, hr_40⟩, hT, hs⟩ := p_39
                replace hT : hx_T T_tb L_36 h_37 := hT
                replace hs : hx_S T_tb [(6, 2)] L_31 h_32 L_36 h_37 := hs
                replace fx_1 := (hs.o (gx.S hM) trivial rfl).1.trans fx_1
                replace hM := hM.tr (hs.mono (by decide))
                have fw_41 : h_37.2.1 x 2 = w_41 := fw_41
                have bw_41 := hT.gi (gx.S hM) tt_6 (k := 2) rfl
                rw [fw_41] at bw_41
                have bw_41 : 0 ≤ w_41.toInt ∧ w_41.toInt ≤ 402 := bw_41
                refine lv_istore_n (lv' := [(3, .int r_38), (2, .int r_12), (4, .int iv7_4), (0, .ref x), (1, .int (8 : Int32))]) hx hb dX6_readEither_79 rfl hl (by decide) rfl (fun ls hl => ?_)
                refine lv_iload_n hx hb dX6_readEither_80 rfl (lv_at hl 0 rfl) ?_
                refine hb_if_ne (zx := r_38.toInt) (tgt := 86) hx hb rfl dX6_readEither_81 (by decide) (fun c_42 => ?_) (fun c_42 => ?_)
                · skip
                  refine lv_aload_n hx hb dX6_readEither_86 rfl (lv_at hl 3 rfl) ?_
                  refine lv_dup hx hb dX6_readEither_87 rfl ?_
                  refine hk_geti hx hb hts hC_6 hown hW (gx.S hM) tt_6 2 (by decide) rfl kw_127 ⟨rfl, rfl, rfl⟩ fw_41 dX6_readEither_88 ?_
                  refine lv_iconst (v := 2) hx hb dX6_readEither_91 (by decide) ?_
                  refine lv_iadd hx hb dX6_readEither_92 ?_
                  have rg_43 := i32_r w_41
                  refine lv_topi (fun x_44 ex_44 => ?_)
                  have zx_44 : x_44.toInt = w_41.toInt + 2 := by rw [ex_44]; exact i32_add rfl (by decide) (by omega) (by omega)
                  refine hx_puti hx hb hts hC_6 hown hW hT (hx_S.rf (M := [(6, 2)])) (gx.S hM) tt_6 2 (by decide) rfl kw_127 ⟨rfl, rfl, rfl⟩ rfl (x := x_44) ⟨by omega, by omega⟩ rfl rfl rfl (List.mem_singleton.mpr rfl) dX6_readEither_93 (fun H locs h_45 eh_45 hW hT hs => ?_)
                  replace fx_1 := (hs.o (gx.S hM) trivial rfl).1.trans fx_1
                  replace hM := hM.tr (hs.mono (by decide))
                  have f_46 : h_45.2.1 x 2 = x_44 := by rw [eh_45]; exact hx_pi_at _ _ _ _
                  obtain ⟨x_47, ex_47⟩ : ∃ y : Int32, y = iv7_4 + Int32.ofInt 1 := ⟨_, rfl⟩
                  have rg_48 := i32_r iv7_4
                  have zx_47 : x_47.toInt = iv7_4.toInt + (1) := by rw [ex_47]; exact i32_add rfl (by decide) (by omega) (by omega)
                  refine lv_iinc (v := x_47) (lv' := [(4, .int x_47), (3, .int r_38), (2, .int r_12), (0, .ref x), (1, .int (8 : Int32))]) hx hb dX6_readEither_96 hl (k := 2) rfl ex_47.symm (by decide) rfl (fun ls hl => ?_)
                  refine lv_goto (tgt := 7) hx hb dX6_readEither_99 (by decide) ?_
                  exact ih7 r_12 r_38 x_47 _ _ L_36 h_45 (by omega) (by omega) (by omega) (by omega) (by omega) (by omega)  ls (by omega) hW hT hM   (lv_sub hl [0, 1, 2, 3, 4] rfl)
                · skip
                  refine lv_iconst (v := 1) hx hb dX6_readEither_84 (by decide) ?_
                  exact hx_retz hx hb hr rfl hlk hW ⟨(by decide), hT, hM⟩ dX6_readEither_85
            · skip
              refine lv_aload_n hx hb dX6_readEither_47 rfl (lv_at hl 3 rfl) ?_
              refine lv_dup hx hb dX6_readEither_48 rfl ?_
              refine hk_geti hx hb hts hC_6 hown hW (gx.S hM) tt_6 2 (by decide) rfl kw_127 ⟨rfl, rfl, rfl⟩ fw_15 dX6_readEither_49 ?_
              refine lv_iconst (v := 3) hx hb dX6_readEither_52 (by decide) ?_
              refine lv_iadd hx hb dX6_readEither_53 ?_
              have rg_49 := i32_r w_15
              refine lv_topi (fun x_50 ex_50 => ?_)
              have zx_50 : x_50.toInt = w_15.toInt + 3 := by rw [ex_50]; exact i32_add rfl (by decide) (by omega) (by omega)
              refine hx_puti hx hb hts hC_6 hown hW hT (hx_S.rf (M := [(6, 2)])) (gx.S hM) tt_6 2 (by decide) rfl kw_127 ⟨rfl, rfl, rfl⟩ rfl (x := x_50) ⟨by omega, by omega⟩ rfl rfl rfl (List.mem_singleton.mpr rfl) dX6_readEither_54 (fun H locs h_51 eh_51 hW hT hs => ?_)
              replace fx_1 := (hs.o (gx.S hM) trivial rfl).1.trans fx_1
              replace hM := hM.tr (hs.mono (by decide))
              have f_52 : h_51.2.1 x 2 = x_50 := by rw [eh_51]; exact hx_pi_at _ _ _ _
              refine lv_goto (tgt := 96) hx hb dX6_readEither_57 (by decide) ?_
              obtain ⟨x_53, ex_53⟩ : ∃ y : Int32, y = iv7_4 + Int32.ofInt 1 := ⟨_, rfl⟩
              have rg_54 := i32_r iv7_4
              have zx_53 : x_53.toInt = iv7_4.toInt + (1) := by rw [ex_53]; exact i32_add rfl (by decide) (by omega) (by omega)
              refine lv_iinc (v := x_53) (lv' := [(4, .int x_53), (2, .int r_12), (3, .int iv7_3), (0, .ref x), (1, .int (8 : Int32))]) hx hb dX6_readEither_96 hl (k := 1) rfl ex_53.symm (by decide) rfl (fun ls hl => ?_)
              refine lv_goto (tgt := 7) hx hb dX6_readEither_99 (by decide) ?_
              exact ih7 r_12 iv7_3 x_53 _ _ L_10 h_51 (by omega) (by omega) (by omega) (by omega) (by omega) (by omega)  ls (by omega) hW hT hM   (lv_sub hl [0, 2, 1, 3, 4] rfl)
          · skip
            refine lv_aload_n hx hb dX6_readEither_28 rfl (lv_at hl 3 rfl) ?_
            refine hk_getr hx hb hts hC_6 hown hW (gx.S hM) tt_6 6 (by decide) rfl kw_131 ⟨rfl, rfl, rfl⟩ ((hM.o gx trivial rfl).2.trans f_x_6) dX6_readEither_29 ?_
            refine lv_iconst (v := -1) hx hb dX6_readEither_32 (by decide) ?_
            have zc_m1 : (-1 : Int32).toInt = -1 := by decide
            refine hx_gov (hx_runV (As := [.int (-1 : Int32)]) (rest := []) ⟨hx, hb, hml, hown, hts⟩ hW (gqi.S hM) tt_0 (T := TX0) (N := 5) rfl (t_X0_addProof l dC dI dA L_3 h_4 H.size qi (-1 : Int32) hT (gqi.S hM)) (cwV 1 hts (hx_gV kw_583 kw_580 kw_581 kw_582 kw_96) rfl rfl rfl (by decide +kernel) ⟨Nat.le_of_ble_eq_true rfl, Nat.le_of_ble_eq_true rfl⟩) rfl hl.1 rfl (Nat.le_of_ble_eq_true rfl) dX6_readEither_33 ⟨Nat.le_of_ble_eq_true rfl, Nat.le_of_ble_eq_true rfl⟩) hW (fun L_55 h_56 H locs p_58 hW => ?_)
            obtain ⟨hT, hs⟩ := p_58
            replace hT : hx_T T_tb L_55 h_56 := hT
            replace hs : hx_S T_tb [(0, 4), (12, 0)] L_3 h_4 L_55 h_56 := hs
            replace fx_1 := (hs.o (gx.S hM) trivial rfl).1.trans fx_1
            replace hM := hM.tr (hs.mono (by decide))
            refine lv_aload_n hx hb dX6_readEither_36 rfl (lv_at hl 3 rfl) ?_
            refine va_ldcS (tx := P_st.getD 2 "") hx hb hown (zVR 2 (by decide)) dX6_readEither_37 ?_
            refine hx_goi (hx_runVX (As := [.ref (b0.2.2.2.1 2)]) (rest := []) ⟨hx, hb, hml, hown, hts⟩ hW (gx.S hM) tt_6 (T := TX6) (N := 7) rfl (t_X6_isNextWord l dC dI dA L_55 h_56 H.size b0 x 2 hT (gx.S hM) (by decide) qt (gqt.S hM) ((hM.o gx trivial rfl).2.trans f_x_0)) hZ (cwV 1 hts (hx_gV kw_565 kw_562 kw_564 kw_14 kw_95) rfl rfl rfl (by decide +kernel) ⟨Nat.le_of_ble_eq_true rfl, Nat.le_of_ble_eq_true rfl⟩) rfl hl.1 rfl (Nat.le_of_ble_eq_true rfl) dX6_readEither_39 ⟨Nat.le_of_ble_eq_true rfl, Nat.le_of_ble_eq_true rfl⟩) hW (fun r_62 L_60 h_61 H locs p_63 hW => ?_)
            obtain ⟨⟨w_65, fw_65, hr_64⟩, hT, hs⟩ := p_63
            replace hT : hx_T T_tb L_60 h_61 := hT
            replace hs : hx_S T_tb [(6, 2)] L_55 h_56 L_60 h_61 := hs
            replace fx_1 := (hs.o (gx.S hM) trivial rfl).1.trans fx_1
            replace hM := hM.tr (hs.mono (by decide))
            have fw_65 : h_61.2.1 x 2 = w_65 := fw_65
            have bw_65 := hT.gi (gx.S hM) tt_6 (k := 2) rfl
            rw [fw_65] at bw_65
            have bw_65 : 0 ≤ w_65.toInt ∧ w_65.toInt ≤ 402 := bw_65
            refine lv_istore_n (lv' := [(2, .int r_62), (4, .int iv7_4), (3, .int iv7_3), (0, .ref x), (1, .int (8 : Int32))]) hx hb dX6_readEither_42 rfl hl (by decide) rfl (fun ls hl => ?_)
            refine lv_iload_n hx hb dX6_readEither_43 rfl (lv_at hl 0 rfl) ?_
            refine hb_if_eq (zx := r_62.toInt) (tgt := 60) hx hb rfl dX6_readEither_44 (by decide) (fun c_66 => ?_) (fun c_66 => ?_)
            · skip
              refine lv_iload_n hx hb dX6_readEither_60 rfl (lv_at hl 2 rfl) ?_
              refine hb_if_eq (zx := iv7_3.toInt) (tgt := 73) hx hb rfl dX6_readEither_61 (by decide) (fun c_67 => ?_) (fun c_67 => ?_)
              · skip
                refine lv_aload_n hx hb dX6_readEither_73 rfl (lv_at hl 3 rfl) ?_
                refine va_ldcS (tx := P_st.getD 3 "") hx hb hown (zVR 3 (by decide)) dX6_readEither_74 ?_
                refine hx_goi (hx_runVX (As := [.ref (b0.2.2.2.1 3)]) (rest := []) ⟨hx, hb, hml, hown, hts⟩ hW (gx.S hM) tt_6 (T := TX6) (N := 7) rfl (t_X6_isNextWord l dC dI dA L_60 h_61 H.size b0 x 3 hT (gx.S hM) (by decide) qt (gqt.S hM) ((hM.o gx trivial rfl).2.trans f_x_0)) hZ (cwV 1 hts (hx_gV kw_565 kw_562 kw_564 kw_14 kw_95) rfl rfl rfl (by decide +kernel) ⟨Nat.le_of_ble_eq_true rfl, Nat.le_of_ble_eq_true rfl⟩) rfl hl.1 rfl (Nat.le_of_ble_eq_true rfl) dX6_readEither_76 ⟨Nat.le_of_ble_eq_true rfl, Nat.le_of_ble_eq_true rfl⟩) hW (fun r_70 L_68 h_69 H locs p_71 hW => ?_)
                obtain ⟨⟨w_73, fw_73, hr_72⟩, hT, hs⟩ := p_71
                replace hT : hx_T T_tb L_68 h_69 := hT
                replace hs : hx_S T_tb [(6, 2)] L_60 h_61 L_68 h_69 := hs
                replace fx_1 := (hs.o (gx.S hM) trivial rfl).1.trans fx_1
                replace hM := hM.tr (hs.mono (by decide))
                have fw_73 : h_69.2.1 x 2 = w_73 := fw_73
                have bw_73 := hT.gi (gx.S hM) tt_6 (k := 2) rfl
                rw [fw_73] at bw_73
                have bw_73 : 0 ≤ w_73.toInt ∧ w_73.toInt ≤ 402 := bw_73
                refine lv_istore_n (lv' := [(3, .int r_70), (2, .int r_62), (4, .int iv7_4), (0, .ref x), (1, .int (8 : Int32))]) hx hb dX6_readEither_79 rfl hl (by decide) rfl (fun ls hl => ?_)
                refine lv_iload_n hx hb dX6_readEither_80 rfl (lv_at hl 0 rfl) ?_
                refine hb_if_ne (zx := r_70.toInt) (tgt := 86) hx hb rfl dX6_readEither_81 (by decide) (fun c_74 => ?_) (fun c_74 => ?_)
                · skip
                  refine lv_aload_n hx hb dX6_readEither_86 rfl (lv_at hl 3 rfl) ?_
                  refine lv_dup hx hb dX6_readEither_87 rfl ?_
                  refine hk_geti hx hb hts hC_6 hown hW (gx.S hM) tt_6 2 (by decide) rfl kw_127 ⟨rfl, rfl, rfl⟩ fw_73 dX6_readEither_88 ?_
                  refine lv_iconst (v := 2) hx hb dX6_readEither_91 (by decide) ?_
                  refine lv_iadd hx hb dX6_readEither_92 ?_
                  have rg_75 := i32_r w_73
                  refine lv_topi (fun x_76 ex_76 => ?_)
                  have zx_76 : x_76.toInt = w_73.toInt + 2 := by rw [ex_76]; exact i32_add rfl (by decide) (by omega) (by omega)
                  refine hx_puti hx hb hts hC_6 hown hW hT (hx_S.rf (M := [(6, 2)])) (gx.S hM) tt_6 2 (by decide) rfl kw_127 ⟨rfl, rfl, rfl⟩ rfl (x := x_76) ⟨by omega, by omega⟩ rfl rfl rfl (List.mem_singleton.mpr rfl) dX6_readEither_93 (fun H locs h_77 eh_77 hW hT hs => ?_)
                  replace fx_1 := (hs.o (gx.S hM) trivial rfl).1.trans fx_1
                  replace hM := hM.tr (hs.mono (by decide))
                  have f_78 : h_77.2.1 x 2 = x_76 := by rw [eh_77]; exact hx_pi_at _ _ _ _
                  obtain ⟨x_79, ex_79⟩ : ∃ y : Int32, y = iv7_4 + Int32.ofInt 1 := ⟨_, rfl⟩
                  have rg_80 := i32_r iv7_4
                  have zx_79 : x_79.toInt = iv7_4.toInt + (1) := by rw [ex_79]; exact i32_add rfl (by decide) (by omega) (by omega)
                  refine lv_iinc (v := x_79) (lv' := [(4, .int x_79), (3, .int r_70), (2, .int r_62), (0, .ref x), (1, .int (8 : Int32))]) hx hb dX6_readEither_96 hl (k := 2) rfl ex_79.symm (by decide) rfl (fun ls hl => ?_)
                  refine lv_goto (tgt := 7) hx hb dX6_readEither_99 (by decide) ?_
                  exact ih7 r_62 r_70 x_79 _ _ L_68 h_77 (by omega) (by omega) (by omega) (by omega) (by omega) (by omega)  ls (by omega) hW hT hM   (lv_sub hl [0, 1, 2, 3, 4] rfl)
                · skip
                  refine lv_iconst (v := 1) hx hb dX6_readEither_84 (by decide) ?_
                  exact hx_retz hx hb hr rfl hlk hW ⟨(by decide), hT, hM⟩ dX6_readEither_85
              · skip
                refine lv_aload_n hx hb dX6_readEither_64 rfl (lv_at hl 3 rfl) ?_
                refine hk_getr hx hb hts hC_6 hown hW (gx.S hM) tt_6 6 (by decide) rfl kw_131 ⟨rfl, rfl, rfl⟩ ((hM.o gx trivial rfl).2.trans f_x_6) dX6_readEither_65 ?_
                refine lv_bipush (v := -2) hx hb dX6_readEither_68 (by decide) ?_
                have zc_m2 : (-2 : Int32).toInt = -2 := by decide
                refine hx_gov (hx_runV (As := [.int (-2 : Int32)]) (rest := []) ⟨hx, hb, hml, hown, hts⟩ hW (gqi.S hM) tt_0 (T := TX0) (N := 5) rfl (t_X0_addProof l dC dI dA L_60 h_61 H.size qi (-2 : Int32) hT (gqi.S hM)) (cwV 1 hts (hx_gV kw_583 kw_580 kw_581 kw_582 kw_96) rfl rfl rfl (by decide +kernel) ⟨Nat.le_of_ble_eq_true rfl, Nat.le_of_ble_eq_true rfl⟩) rfl hl.1 rfl (Nat.le_of_ble_eq_true rfl) dX6_readEither_70 ⟨Nat.le_of_ble_eq_true rfl, Nat.le_of_ble_eq_true rfl⟩) hW (fun L_81 h_82 H locs p_84 hW => ?_)
                obtain ⟨hT, hs⟩ := p_84
                replace hT : hx_T T_tb L_81 h_82 := hT
                replace hs : hx_S T_tb [(0, 4), (12, 0)] L_60 h_61 L_81 h_82 := hs
                replace fx_1 := (hs.o (gx.S hM) trivial rfl).1.trans fx_1
                replace fw_65 := (hs.o (gx.S hM) trivial rfl).1.trans fw_65
                replace hM := hM.tr (hs.mono (by decide))
                refine lv_aload_n hx hb dX6_readEither_73 rfl (lv_at hl 3 rfl) ?_
                refine va_ldcS (tx := P_st.getD 3 "") hx hb hown (zVR 3 (by decide)) dX6_readEither_74 ?_
                refine hx_goi (hx_runVX (As := [.ref (b0.2.2.2.1 3)]) (rest := []) ⟨hx, hb, hml, hown, hts⟩ hW (gx.S hM) tt_6 (T := TX6) (N := 7) rfl (t_X6_isNextWord l dC dI dA L_81 h_82 H.size b0 x 3 hT (gx.S hM) (by decide) qt (gqt.S hM) ((hM.o gx trivial rfl).2.trans f_x_0)) hZ (cwV 1 hts (hx_gV kw_565 kw_562 kw_564 kw_14 kw_95) rfl rfl rfl (by decide +kernel) ⟨Nat.le_of_ble_eq_true rfl, Nat.le_of_ble_eq_true rfl⟩) rfl hl.1 rfl (Nat.le_of_ble_eq_true rfl) dX6_readEither_76 ⟨Nat.le_of_ble_eq_true rfl, Nat.le_of_ble_eq_true rfl⟩) hW (fun r_88 L_86 h_87 H locs p_89 hW => ?_)
                obtain ⟨⟨w_91, fw_91, hr_90⟩, hT, hs⟩ := p_89
                replace hT : hx_T T_tb L_86 h_87 := hT
                replace hs : hx_S T_tb [(6, 2)] L_81 h_82 L_86 h_87 := hs
                replace fx_1 := (hs.o (gx.S hM) trivial rfl).1.trans fx_1
                replace hM := hM.tr (hs.mono (by decide))
                have fw_91 : h_87.2.1 x 2 = w_91 := fw_91
                have bw_91 := hT.gi (gx.S hM) tt_6 (k := 2) rfl
                rw [fw_91] at bw_91
                have bw_91 : 0 ≤ w_91.toInt ∧ w_91.toInt ≤ 402 := bw_91
                refine lv_istore_n (lv' := [(3, .int r_88), (2, .int r_62), (4, .int iv7_4), (0, .ref x), (1, .int (8 : Int32))]) hx hb dX6_readEither_79 rfl hl (by decide) rfl (fun ls hl => ?_)
                refine lv_iload_n hx hb dX6_readEither_80 rfl (lv_at hl 0 rfl) ?_
                refine hb_if_ne (zx := r_88.toInt) (tgt := 86) hx hb rfl dX6_readEither_81 (by decide) (fun c_92 => ?_) (fun c_92 => ?_)
                · skip
                  refine lv_aload_n hx hb dX6_readEither_86 rfl (lv_at hl 3 rfl) ?_
                  refine lv_dup hx hb dX6_readEither_87 rfl ?_
                  refine hk_geti hx hb hts hC_6 hown hW (gx.S hM) tt_6 2 (by decide) rfl kw_127 ⟨rfl, rfl, rfl⟩ fw_91 dX6_readEither_88 ?_
                  refine lv_iconst (v := 2) hx hb dX6_readEither_91 (by decide) ?_
                  refine lv_iadd hx hb dX6_readEither_92 ?_
                  have rg_93 := i32_r w_91
                  refine lv_topi (fun x_94 ex_94 => ?_)
                  have zx_94 : x_94.toInt = w_91.toInt + 2 := by rw [ex_94]; exact i32_add rfl (by decide) (by omega) (by omega)
                  refine hx_puti hx hb hts hC_6 hown hW hT (hx_S.rf (M := [(6, 2)])) (gx.S hM) tt_6 2 (by decide) rfl kw_127 ⟨rfl, rfl, rfl⟩ rfl (x := x_94) ⟨by omega, by omega⟩ rfl rfl rfl (List.mem_singleton.mpr rfl) dX6_readEither_93 (fun H locs h_95 eh_95 hW hT hs => ?_)
                  replace fx_1 := (hs.o (gx.S hM) trivial rfl).1.trans fx_1
                  replace hM := hM.tr (hs.mono (by decide))
                  have f_96 : h_95.2.1 x 2 = x_94 := by rw [eh_95]; exact hx_pi_at _ _ _ _
                  obtain ⟨x_97, ex_97⟩ : ∃ y : Int32, y = iv7_4 + Int32.ofInt 1 := ⟨_, rfl⟩
                  have rg_98 := i32_r iv7_4
                  have zx_97 : x_97.toInt = iv7_4.toInt + (1) := by rw [ex_97]; exact i32_add rfl (by decide) (by omega) (by omega)
                  refine lv_iinc (v := x_97) (lv' := [(4, .int x_97), (3, .int r_88), (2, .int r_62), (0, .ref x), (1, .int (8 : Int32))]) hx hb dX6_readEither_96 hl (k := 2) rfl ex_97.symm (by decide) rfl (fun ls hl => ?_)
                  refine lv_goto (tgt := 7) hx hb dX6_readEither_99 (by decide) ?_
                  exact ih7 r_62 r_88 x_97 _ _ L_86 h_95 (by omega) (by omega) (by omega) (by omega) (by omega) (by omega)  ls (by omega) hW hT hM   (lv_sub hl [0, 1, 2, 3, 4] rfl)
                · skip
                  refine lv_iconst (v := 1) hx hb dX6_readEither_84 (by decide) ?_
                  exact hx_retz hx hb hr rfl hlk hW ⟨(by decide), hT, hM⟩ dX6_readEither_85
            · skip
              refine lv_aload_n hx hb dX6_readEither_47 rfl (lv_at hl 3 rfl) ?_
              refine lv_dup hx hb dX6_readEither_48 rfl ?_
              refine hk_geti hx hb hts hC_6 hown hW (gx.S hM) tt_6 2 (by decide) rfl kw_127 ⟨rfl, rfl, rfl⟩ fw_65 dX6_readEither_49 ?_
              refine lv_iconst (v := 3) hx hb dX6_readEither_52 (by decide) ?_
              refine lv_iadd hx hb dX6_readEither_53 ?_
              have rg_99 := i32_r w_65
              refine lv_topi (fun x_100 ex_100 => ?_)
              have zx_100 : x_100.toInt = w_65.toInt + 3 := by rw [ex_100]; exact i32_add rfl (by decide) (by omega) (by omega)
              refine hx_puti hx hb hts hC_6 hown hW hT (hx_S.rf (M := [(6, 2)])) (gx.S hM) tt_6 2 (by decide) rfl kw_127 ⟨rfl, rfl, rfl⟩ rfl (x := x_100) ⟨by omega, by omega⟩ rfl rfl rfl (List.mem_singleton.mpr rfl) dX6_readEither_54 (fun H locs h_101 eh_101 hW hT hs => ?_)
              replace fx_1 := (hs.o (gx.S hM) trivial rfl).1.trans fx_1
              replace hM := hM.tr (hs.mono (by decide))
              have f_102 : h_101.2.1 x 2 = x_100 := by rw [eh_101]; exact hx_pi_at _ _ _ _
              refine lv_goto (tgt := 96) hx hb dX6_readEither_57 (by decide) ?_
              obtain ⟨x_103, ex_103⟩ : ∃ y : Int32, y = iv7_4 + Int32.ofInt 1 := ⟨_, rfl⟩
              have rg_104 := i32_r iv7_4
              have zx_103 : x_103.toInt = iv7_4.toInt + (1) := by rw [ex_103]; exact i32_add rfl (by decide) (by omega) (by omega)
              refine lv_iinc (v := x_103) (lv' := [(4, .int x_103), (2, .int r_62), (3, .int iv7_3), (0, .ref x), (1, .int (8 : Int32))]) hx hb dX6_readEither_96 hl (k := 1) rfl ex_103.symm (by decide) rfl (fun ls hl => ?_)
              refine lv_goto (tgt := 7) hx hb dX6_readEither_99 (by decide) ?_
              exact ih7 r_62 iv7_3 x_103 _ _ L_60 h_101 (by omega) (by omega) (by omega) (by omega) (by omega) (by omega)  ls (by omega) hW hT hM   (lv_sub hl [0, 2, 1, 3, 4] rfl)
  have zk_0 : (0 : Int32).toInt = 0 := by decide
  have zk_0 : (0 : Int32).toInt = 0 := by decide
  have zk_0 : (0 : Int32).toInt = 0 := by decide
  exact loop7 402 (0 : Int32) (0 : Int32) (0 : Int32) _ _ L h (by decide) (by decide) (by decide) (by decide) (by decide) (by decide)  ls (by omega) hW hT hM   hl

theorem dX6_readOne_41 : decode cX6_readOne 41 = .ok (.iload_n 2, 1) := dq_28 (hz_wg wX6_readOne_0 (j := 41) (n := 28) rfl)
theorem dX6_readOne_42 : decode cX6_readOne 42 = .ok (.ifCond .eq 36, 3) := dq_153 (hz_wg wX6_readOne_0 (j := 42) (n := 153) rfl) (hz_wg wX6_readOne_0 (j := 43) (n := 0) rfl) (hz_wg wX6_readOne_0 (j := 44) (n := 36) rfl) (by decide)
theorem dX6_readOne_45 : decode cX6_readOne 45 = .ok (.aload_n 0, 1) := dq_42 (hz_wg wX6_readOne_0 (j := 45) (n := 42) rfl)
theorem dX6_readOne_46 : decode cX6_readOne 46 = .ok (.dup, 1) := dq_89 (hz_wg wX6_readOne_0 (j := 46) (n := 89) rfl)
theorem dX6_readOne_47 : decode cX6_readOne 47 = .ok (.getfield 19, 3) := dq_180 (hz_wg wX6_readOne_0 (j := 47) (n := 180) rfl) (hz_wg wX6_readOne_0 (j := 48) (n := 0) rfl) (hz_wg wX6_readOne_0 (j := 49) (n := 19) rfl) rfl
theorem dX6_readOne_50 : decode cX6_readOne 50 = .ok (.iconst 3, 1) := dq_6 (hz_wg wX6_readOne_0 (j := 50) (n := 6) rfl)
theorem dX6_readOne_51 : decode cX6_readOne 51 = .ok (.iadd, 1) := dq_96 (hz_wg wX6_readOne_0 (j := 51) (n := 96) rfl)
theorem dX6_readOne_52 : decode cX6_readOne 52 = .ok (.putfield 19, 3) := dq_181 (hz_wg wX6_readOne_0 (j := 52) (n := 181) rfl) (hz_wg wX6_readOne_0 (j := 53) (n := 0) rfl) (hz_wg wX6_readOne_0 (j := 54) (n := 19) rfl) rfl
theorem dX6_readOne_55 : decode cX6_readOne 55 = .ok (.aload_n 0, 1) := dq_42 (hz_wg wX6_readOne_0 (j := 55) (n := 42) rfl)
theorem dX6_readOne_56 : decode cX6_readOne 56 = .ok (.iload_n 1, 1) := dq_27 (hz_wg wX6_readOne_0 (j := 56) (n := 27) rfl)
theorem dX6_readOne_57 : decode cX6_readOne 57 = .ok (.iconst 1, 1) := dq_4 (hz_wg wX6_readOne_0 (j := 57) (n := 4) rfl)
theorem dX6_readOne_58 : decode cX6_readOne 58 = .ok (.iadd, 1) := dq_96 (hz_wg wX6_readOne_0 (j := 58) (n := 96) rfl)
theorem dX6_readOne_59 : decode cX6_readOne 59 = .ok (.invokevirtual 92, 3) := dq_182 (hz_wg wX6_readOne_0 (j := 59) (n := 182) rfl) (hz_wg wX6_readOne_0 (j := 60) (n := 0) rfl) (hz_wg wX6_readOne_0 (j := 61) (n := 92) rfl) rfl
theorem dX6_readOne_62 : decode cX6_readOne 62 = .ok (.ifCond .ne 5, 3) := dq_154 (hz_wg wX6_readOne_0 (j := 62) (n := 154) rfl) (hz_wg wX6_readOne_0 (j := 63) (n := 0) rfl) (hz_wg wX6_readOne_1 (j := 0) (n := 5) rfl) (by decide)
theorem dX6_readOne_65 : decode cX6_readOne 65 = .ok (.iconst 0, 1) := dq_3 (hz_wg wX6_readOne_1 (j := 1) (n := 3) rfl)
theorem dX6_readOne_66 : decode cX6_readOne 66 = .ok (.ireturn, 1) := dq_172 (hz_wg wX6_readOne_1 (j := 2) (n := 172) rfl)
theorem dX6_readOne_67 : decode cX6_readOne 67 = .ok (.aload_n 0, 1) := dq_42 (hz_wg wX6_readOne_1 (j := 3) (n := 42) rfl)
theorem dX6_readOne_68 : decode cX6_readOne 68 = .ok (.getfield 31, 3) := dq_180 (hz_wg wX6_readOne_1 (j := 4) (n := 180) rfl) (hz_wg wX6_readOne_1 (j := 5) (n := 0) rfl) (hz_wg wX6_readOne_1 (j := 6) (n := 31) rfl) rfl
theorem dX6_readOne_71 : decode cX6_readOne 71 = .ok (.bipush (-3), 2) := dq_16 (hz_wg wX6_readOne_1 (j := 7) (n := 16) rfl) (hz_wg wX6_readOne_1 (j := 8) (n := 253) rfl) (by decide)
theorem dX6_readOne_73 : decode cX6_readOne 73 = .ok (.invokevirtual 95, 3) := dq_182 (hz_wg wX6_readOne_1 (j := 9) (n := 182) rfl) (hz_wg wX6_readOne_1 (j := 10) (n := 0) rfl) (hz_wg wX6_readOne_1 (j := 11) (n := 95) rfl) rfl
theorem dX6_readOne_76 : decode cX6_readOne 76 = .ok (.iconst 1, 1) := dq_4 (hz_wg wX6_readOne_1 (j := 12) (n := 4) rfl)
theorem dX6_readOne_77 : decode cX6_readOne 77 = .ok (.ireturn, 1) := dq_172 (hz_wg wX6_readOne_1 (j := 13) (n := 172) rfl)
theorem dX6_readOne_78 : decode cX6_readOne 78 = .ok (.aload_n 0, 1) := dq_42 (hz_wg wX6_readOne_1 (j := 14) (n := 42) rfl)
theorem dX6_readOne_79 : decode cX6_readOne 79 = .ok (.dup, 1) := dq_89 (hz_wg wX6_readOne_1 (j := 15) (n := 89) rfl)
theorem dX6_readOne_80 : decode cX6_readOne 80 = .ok (.getfield 19, 3) := dq_180 (hz_wg wX6_readOne_1 (j := 16) (n := 180) rfl) (hz_wg wX6_readOne_1 (j := 17) (n := 0) rfl) (hz_wg wX6_readOne_1 (j := 18) (n := 19) rfl) rfl
theorem dX6_readOne_83 : decode cX6_readOne 83 = .ok (.iconst 1, 1) := dq_4 (hz_wg wX6_readOne_1 (j := 19) (n := 4) rfl)
theorem dX6_readOne_84 : decode cX6_readOne 84 = .ok (.iadd, 1) := dq_96 (hz_wg wX6_readOne_1 (j := 20) (n := 96) rfl)
theorem dX6_readOne_85 : decode cX6_readOne 85 = .ok (.putfield 19, 3) := dq_181 (hz_wg wX6_readOne_1 (j := 21) (n := 181) rfl) (hz_wg wX6_readOne_1 (j := 22) (n := 0) rfl) (hz_wg wX6_readOne_1 (j := 23) (n := 19) rfl) rfl
theorem dX6_readOne_88 : decode cX6_readOne 88 = .ok (.aload_n 0, 1) := dq_42 (hz_wg wX6_readOne_1 (j := 24) (n := 42) rfl)
theorem dX6_readOne_89 : decode cX6_readOne 89 = .ok (.iload_n 1, 1) := dq_27 (hz_wg wX6_readOne_1 (j := 25) (n := 27) rfl)
theorem dX6_readOne_90 : decode cX6_readOne 90 = .ok (.iconst 1, 1) := dq_4 (hz_wg wX6_readOne_1 (j := 26) (n := 4) rfl)
theorem dX6_readOne_91 : decode cX6_readOne 91 = .ok (.iadd, 1) := dq_96 (hz_wg wX6_readOne_1 (j := 27) (n := 96) rfl)
theorem dX6_readOne_92 : decode cX6_readOne 92 = .ok (.invokevirtual 66, 3) := dq_182 (hz_wg wX6_readOne_1 (j := 28) (n := 182) rfl) (hz_wg wX6_readOne_1 (j := 29) (n := 0) rfl) (hz_wg wX6_readOne_1 (j := 30) (n := 66) rfl) rfl
theorem dX6_readOne_95 : decode cX6_readOne 95 = .ok (.ifCond .ne 5, 3) := dq_154 (hz_wg wX6_readOne_1 (j := 31) (n := 154) rfl) (hz_wg wX6_readOne_1 (j := 32) (n := 0) rfl) (hz_wg wX6_readOne_1 (j := 33) (n := 5) rfl) (by decide)
theorem dX6_readOne_98 : decode cX6_readOne 98 = .ok (.iconst 0, 1) := dq_3 (hz_wg wX6_readOne_1 (j := 34) (n := 3) rfl)
theorem dX6_readOne_99 : decode cX6_readOne 99 = .ok (.ireturn, 1) := dq_172 (hz_wg wX6_readOne_1 (j := 35) (n := 172) rfl)
theorem dX6_readOne_100 : decode cX6_readOne 100 = .ok (.aload_n 0, 1) := dq_42 (hz_wg wX6_readOne_1 (j := 36) (n := 42) rfl)
theorem dX6_readOne_101 : decode cX6_readOne 101 = .ok (.invokevirtual 35, 3) := dq_182 (hz_wg wX6_readOne_1 (j := 37) (n := 182) rfl) (hz_wg wX6_readOne_1 (j := 38) (n := 0) rfl) (hz_wg wX6_readOne_1 (j := 39) (n := 35) rfl) rfl
theorem dX6_readOne_104 : decode cX6_readOne 104 = .ok (.aload_n 0, 1) := dq_42 (hz_wg wX6_readOne_1 (j := 40) (n := 42) rfl)
theorem dX6_readOne_105 : decode cX6_readOne 105 = .ok (.bipush 41, 2) := dq_16 (hz_wg wX6_readOne_1 (j := 41) (n := 16) rfl) (hz_wg wX6_readOne_1 (j := 42) (n := 41) rfl) (by decide)
theorem dX6_readOne_107 : decode cX6_readOne 107 = .ok (.invokevirtual 109, 3) := dq_182 (hz_wg wX6_readOne_1 (j := 43) (n := 182) rfl) (hz_wg wX6_readOne_1 (j := 44) (n := 0) rfl) (hz_wg wX6_readOne_1 (j := 45) (n := 109) rfl) rfl
theorem dX6_readOne_110 : decode cX6_readOne 110 = .ok (.ifCond .ne 13, 3) := dq_154 (hz_wg wX6_readOne_1 (j := 46) (n := 154) rfl) (hz_wg wX6_readOne_1 (j := 47) (n := 0) rfl) (hz_wg wX6_readOne_1 (j := 48) (n := 13) rfl) (by decide)
theorem dX6_readOne_113 : decode cX6_readOne 113 = .ok (.aload_n 0, 1) := dq_42 (hz_wg wX6_readOne_1 (j := 49) (n := 42) rfl)
theorem dX6_readOne_114 : decode cX6_readOne 114 = .ok (.aload_n 0, 1) := dq_42 (hz_wg wX6_readOne_1 (j := 50) (n := 42) rfl)
theorem dX6_readOne_115 : decode cX6_readOne 115 = .ok (.getfield 19, 3) := dq_180 (hz_wg wX6_readOne_1 (j := 51) (n := 180) rfl) (hz_wg wX6_readOne_1 (j := 52) (n := 0) rfl) (hz_wg wX6_readOne_1 (j := 53) (n := 19) rfl) rfl
theorem dX6_readOne_118 : decode cX6_readOne 118 = .ok (.iconst 0, 1) := dq_3 (hz_wg wX6_readOne_1 (j := 54) (n := 3) rfl)
theorem dX6_readOne_119 : decode cX6_readOne 119 = .ok (.invokevirtual 45, 3) := dq_182 (hz_wg wX6_readOne_1 (j := 55) (n := 182) rfl) (hz_wg wX6_readOne_1 (j := 56) (n := 0) rfl) (hz_wg wX6_readOne_1 (j := 57) (n := 45) rfl) rfl
theorem dX6_readOne_122 : decode cX6_readOne 122 = .ok (.ireturn, 1) := dq_172 (hz_wg wX6_readOne_1 (j := 58) (n := 172) rfl)
theorem dX6_readOne_123 : decode cX6_readOne 123 = .ok (.aload_n 0, 1) := dq_42 (hz_wg wX6_readOne_1 (j := 59) (n := 42) rfl)
theorem dX6_readOne_124 : decode cX6_readOne 124 = .ok (.dup, 1) := dq_89 (hz_wg wX6_readOne_1 (j := 60) (n := 89) rfl)
theorem dX6_readOne_125 : decode cX6_readOne 125 = .ok (.getfield 19, 3) := dq_180 (hz_wg wX6_readOne_1 (j := 61) (n := 180) rfl) (hz_wg wX6_readOne_1 (j := 62) (n := 0) rfl) (hz_wg wX6_readOne_1 (j := 63) (n := 19) rfl) rfl
theorem dX6_readOne_128 : decode cX6_readOne 128 = .ok (.iconst 1, 1) := dq_4 (hz_wg wX6_readOne_2 (j := 0) (n := 4) rfl)
theorem dX6_readOne_129 : decode cX6_readOne 129 = .ok (.iadd, 1) := dq_96 (hz_wg wX6_readOne_2 (j := 1) (n := 96) rfl)
theorem dX6_readOne_130 : decode cX6_readOne 130 = .ok (.putfield 19, 3) := dq_181 (hz_wg wX6_readOne_2 (j := 2) (n := 181) rfl) (hz_wg wX6_readOne_2 (j := 3) (n := 0) rfl) (hz_wg wX6_readOne_2 (j := 4) (n := 19) rfl) rfl
theorem dX6_readOne_133 : decode cX6_readOne 133 = .ok (.iconst 1, 1) := dq_4 (hz_wg wX6_readOne_2 (j := 5) (n := 4) rfl)
theorem dX6_readOne_134 : decode cX6_readOne 134 = .ok (.ireturn, 1) := dq_172 (hz_wg wX6_readOne_2 (j := 6) (n := 172) rfl)
set_option maxHeartbeats 4000000 in
set_option maxRecDepth 100000 in
theorem t_X6_readOne_7 (l : Launch) (dC : Nat → ClassId) (dI : Nat → Nat → Nat) (dA : Nat → ClassId) (L : List Nat) (h : hx_h) (sz : Nat) (b0 : hx_z) (x : Nat) (hT : hx_T T_tb L h) (gx : hx_g L h x 6) (qt : Nat) (gqt : hx_g L h qt 42) (f_x_0 : h.2.2 x 0 = some qt) (qi : Nat) (gqi : hx_g L h qi 0) (f_x_6 : h.2.2 x 6 = some qi) : Met l yX6_readOne (Cond.code yX6_readOne cX6_readOne 3 (some .boolean) :: hx_all) ({ frames := 9, cells := 0, slots := 0, locals := 204 }) (va_Pc [.ref x, .int (7 : Int32)] (hx_BX T_tb (P_ty dA) (dC, dI) vwCl L h sz b0)) (va_Qi (fun (r : Int32) (u : List Nat × hx_h) => (r.toInt = 0 ∨ r.toInt = 1) ∧ hx_T T_tb u.1 u.2 ∧ hx_S T_tb [(0, 4), (6, 2), (6, 3), (6, 5), (12, 0)] L h u.1 u.2) (hx_E T_tb (P_ty dA) (dC, dI) vwCl (hx_A L sz)) (hx_A L sz)) 0 0 (hx_A L sz) := by
  refine hx_metX (lv := [(0, .ref x), (1, .int (7 : Int32))]) (by decide +kernel) rfl (Nat.le_of_ble_eq_true rfl) rfl ?_
  intro p e s m below meth c hx hb hml hr hlk hts0 hown hin hsz hW hZ ls hl
  have hts : ∀ w ∈ hx_all, w.before _ s = true := fun w hw => hts0 w (List.mem_cons_of_mem _ hw)
  have hown : s.vm.findClass "SmallCourt$Reader" = some m.cls := hown
  have hM : hx_S T_tb [(0, 4), (6, 2), (6, 3), (6, 5), (12, 0)] L h L h := hx_S.rf
  obtain ⟨zLT, zLA, zMT, zMA, zCS, zSF, zVS, zVR⟩ := hZ.2.2.2.2.2.2
  refine lv_aload_n hx hb dX6_readOne_0 rfl (lv_at hl 0 rfl) ?_
  refine va_ldcS (tx := P_st.getD 4 "") hx hb hown (zVR 4 (by decide)) dX6_readOne_1 ?_
  refine hx_goi (hx_runVX (As := [.ref (b0.2.2.2.1 4)]) (rest := []) ⟨hx, hb, hml, hown, hts⟩ hW (gx.S hM) tt_6 (T := TX6) (N := 7) rfl (t_X6_isNextWord l dC dI dA L h s.heap.size b0 x 4 hT (gx.S hM) (by decide) qt (gqt.S hM) ((hM.o gx trivial rfl).2.trans f_x_0)) hZ (cwV 1 hts (hx_gV kw_565 kw_562 kw_564 kw_14 kw_95) rfl rfl rfl (by decide +kernel) ⟨Nat.le_of_ble_eq_true rfl, Nat.le_of_ble_eq_true rfl⟩) rfl hl.1 rfl (Nat.le_of_ble_eq_true rfl) dX6_readOne_3 ⟨Nat.le_of_ble_eq_true rfl, Nat.le_of_ble_eq_true rfl⟩) hW (fun r_3 L_1 h_2 H locs p_4 hW => ?_)
  obtain ⟨⟨w_6, fw_6, hr_5⟩, hT, hs⟩ := p_4
  replace hT : hx_T T_tb L_1 h_2 := hT
  replace hs : hx_S T_tb [(6, 2)] L h L_1 h_2 := hs
  replace hM := hM.tr (hs.mono (by decide))
  have fw_6 : h_2.2.1 x 2 = w_6 := fw_6
  have bw_6 := hT.gi (gx.S hM) tt_6 (k := 2) rfl
  rw [fw_6] at bw_6
  have bw_6 : 0 ≤ w_6.toInt ∧ w_6.toInt ≤ 402 := bw_6
  refine lv_istore_n (lv' := [(2, .int r_3), (0, .ref x), (1, .int (7 : Int32))]) hx hb dX6_readOne_6 rfl hl (by decide) rfl (fun ls hl => ?_)
  refine lv_iload_n hx hb dX6_readOne_7 rfl (lv_at hl 0 rfl) ?_
  refine hb_if_ne (zx := r_3.toInt) (tgt := 25) hx hb rfl dX6_readOne_8 (by decide) (fun c_7 => ?_) (fun c_7 => ?_)
  · skip
    refine lv_iload_n hx hb dX6_readOne_25 rfl (lv_at hl 2 rfl) ?_
    refine lv_bipush (v := 8) hx hb dX6_readOne_26 (by decide) ?_
    refine hb_icmp_lt (zx := 7) (zy := 8) (tgt := 41) hx hb (by decide) (by decide) dX6_readOne_28 (by decide) (fun c_8 => ?_) (fun c_8 => absurd c_8 (by decide))
    refine lv_iload_n hx hb dX6_readOne_41 rfl (lv_at hl 0 rfl) ?_
    refine hb_if_eq (zx := r_3.toInt) (tgt := 78) hx hb rfl dX6_readOne_42 (by decide) (fun c_9 => by exfalso; omega) (fun c_9 => ?_)
    refine lv_aload_n hx hb dX6_readOne_45 rfl (lv_at hl 1 rfl) ?_
    refine lv_dup hx hb dX6_readOne_46 rfl ?_
    refine hk_geti hx hb hts hC_6 hown hW (gx.S hM) tt_6 2 (by decide) rfl kw_127 ⟨rfl, rfl, rfl⟩ fw_6 dX6_readOne_47 ?_
    refine lv_iconst (v := 3) hx hb dX6_readOne_50 (by decide) ?_
    refine lv_iadd hx hb dX6_readOne_51 ?_
    have rg_10 := i32_r w_6
    refine lv_topi (fun x_11 ex_11 => ?_)
    have zx_11 : x_11.toInt = w_6.toInt + 3 := by rw [ex_11]; exact i32_add rfl (by decide) (by omega) (by omega)
    refine hx_puti hx hb hts hC_6 hown hW hT (hx_S.rf (M := [(6, 2)])) (gx.S hM) tt_6 2 (by decide) rfl kw_127 ⟨rfl, rfl, rfl⟩ rfl (x := x_11) ⟨by omega, by omega⟩ rfl rfl rfl (List.mem_singleton.mpr rfl) dX6_readOne_52 (fun H locs h_12 eh_12 hW hT hs => ?_)
    replace hM := hM.tr (hs.mono (by decide))
    have f_13 : h_12.2.1 x 2 = x_11 := by rw [eh_12]; exact hx_pi_at _ _ _ _
    refine lv_aload_n hx hb dX6_readOne_55 rfl (lv_at hl 1 rfl) ?_
    refine lv_iload_n hx hb dX6_readOne_56 rfl (lv_at hl 2 rfl) ?_
    refine lv_iconst (v := 1) hx hb dX6_readOne_57 (by decide) ?_
    refine lv_iadd hx hb dX6_readOne_58 ?_
    refine lv_topi (fun x_14 ex_14 => ?_)
    obtain rfl : x_14 = (8 : Int32) := ex_14.trans (by decide)
    have zc_8 : (8 : Int32).toInt = 8 := by decide
    refine hx_goi (hx_runVX (As := [.int (8 : Int32)]) (rest := []) ⟨hx, hb, hml, hown, hts⟩ hW (gx.S hM) tt_6 (T := TX6) (N := 7) rfl (t_X6_readOne_8 l dC dI dA L_1 h_12 H.size b0 x hT (gx.S hM) qt (gqt.S hM) ((hM.o gx trivial rfl).2.trans f_x_0) qi (gqi.S hM) ((hM.o gx trivial rfl).2.trans f_x_6)) hZ (cwV 1 hts (hx_gV kw_560 kw_557 kw_559 kw_13 kw_95) rfl rfl rfl (by decide +kernel) ⟨Nat.le_of_ble_eq_true rfl, Nat.le_of_ble_eq_true rfl⟩) rfl hl.1 rfl (Nat.le_of_ble_eq_true rfl) dX6_readOne_59 ⟨Nat.le_of_ble_eq_true rfl, Nat.le_of_ble_eq_true rfl⟩) hW (fun r_17 L_15 h_16 H locs p_18 hW => ?_)
    obtain ⟨hr_19, hT, hs⟩ := p_18
    replace hT : hx_T T_tb L_15 h_16 := hT
    replace hs : hx_S T_tb [(0, 4), (6, 2), (6, 3), (6, 5), (12, 0)] L_1 h_12 L_15 h_16 := hs
    replace hM := hM.tr (hs.mono (by decide))
    refine hb_if_ne (zx := r_17.toInt) (tgt := 67) hx hb rfl dX6_readOne_62 (by decide) (fun c_20 => ?_) (fun c_20 => ?_)
    · skip
      refine lv_aload_n hx hb dX6_readOne_67 rfl (lv_at hl 1 rfl) ?_
      refine hk_getr hx hb hts hC_6 hown hW (gx.S hM) tt_6 6 (by decide) rfl kw_131 ⟨rfl, rfl, rfl⟩ ((hM.o gx trivial rfl).2.trans f_x_6) dX6_readOne_68 ?_
      refine lv_bipush (v := -3) hx hb dX6_readOne_71 (by decide) ?_
      have zc_m3 : (-3 : Int32).toInt = -3 := by decide
      refine hx_gov (hx_runV (As := [.int (-3 : Int32)]) (rest := []) ⟨hx, hb, hml, hown, hts⟩ hW (gqi.S hM) tt_0 (T := TX0) (N := 5) rfl (t_X0_addProof l dC dI dA L_15 h_16 H.size qi (-3 : Int32) hT (gqi.S hM)) (cwV 1 hts (hx_gV kw_583 kw_580 kw_581 kw_582 kw_96) rfl rfl rfl (by decide +kernel) ⟨Nat.le_of_ble_eq_true rfl, Nat.le_of_ble_eq_true rfl⟩) rfl hl.1 rfl (Nat.le_of_ble_eq_true rfl) dX6_readOne_73 ⟨Nat.le_of_ble_eq_true rfl, Nat.le_of_ble_eq_true rfl⟩) hW (fun L_21 h_22 H locs p_24 hW => ?_)
      obtain ⟨hT, hs⟩ := p_24
      replace hT : hx_T T_tb L_21 h_22 := hT
      replace hs : hx_S T_tb [(0, 4), (12, 0)] L_15 h_16 L_21 h_22 := hs
      replace hM := hM.tr (hs.mono (by decide))
      refine lv_iconst (v := 1) hx hb dX6_readOne_76 (by decide) ?_
      exact hx_retz hx hb hr rfl hlk hW ⟨(by decide), hT, hM⟩ dX6_readOne_77
    · skip
      refine lv_iconst (v := 0) hx hb dX6_readOne_65 (by decide) ?_
      exact hx_retz hx hb hr rfl hlk hW ⟨(by decide), hT, hM⟩ dX6_readOne_66
  · skip
    refine lv_aload_n hx hb dX6_readOne_11 rfl (lv_at hl 1 rfl) ?_
    refine lv_bipush (v := 40) hx hb dX6_readOne_12 (by decide) ?_
    have zc_40 : (40 : Int32).toInt = 40 := by decide
    refine hx_goi (hx_runV (As := [.int (40 : Int32)]) (rest := []) ⟨hx, hb, hml, hown, hts⟩ hW (gx.S hM) tt_6 (T := TX6) (N := 7) rfl (t_X6_isByte l dC dI dA L_1 h_2 H.size x (40 : Int32) hT (gx.S hM) w_6 fw_6 qt (gqt.S hM) ((hM.o gx trivial rfl).2.trans f_x_0)) (cwV 1 hts (hx_gV kw_569 kw_566 kw_568 kw_15 kw_95) rfl rfl rfl (by decide +kernel) ⟨Nat.le_of_ble_eq_true rfl, Nat.le_of_ble_eq_true rfl⟩) rfl hl.1 rfl (Nat.le_of_ble_eq_true rfl) dX6_readOne_14 ⟨Nat.le_of_ble_eq_true rfl, Nat.le_of_ble_eq_true rfl⟩) hW (fun r_28 L_26 h_27 H locs p_29 hW => ?_)
    obtain ⟨hr_30, hT, hs⟩ := p_29
    replace hT : hx_T T_tb L_26 h_27 := hT
    replace hs : hx_S T_tb [] L_1 h_2 L_26 h_27 := hs
    replace fw_6 := (hs.o (gx.S hM) trivial rfl).1.trans fw_6
    replace hM := hM.tr (hs.mono (by decide))
    refine hb_if_ne (zx := r_28.toInt) (tgt := 25) hx hb rfl dX6_readOne_17 (by decide) (fun c_31 => ?_) (fun c_31 => ?_)
    · skip
      refine lv_iload_n hx hb dX6_readOne_25 rfl (lv_at hl 2 rfl) ?_
      refine lv_bipush (v := 8) hx hb dX6_readOne_26 (by decide) ?_
      refine hb_icmp_lt (zx := 7) (zy := 8) (tgt := 41) hx hb (by decide) (by decide) dX6_readOne_28 (by decide) (fun c_32 => ?_) (fun c_32 => absurd c_32 (by decide))
      refine lv_iload_n hx hb dX6_readOne_41 rfl (lv_at hl 0 rfl) ?_
      refine hb_if_eq (zx := r_3.toInt) (tgt := 78) hx hb rfl dX6_readOne_42 (by decide) (fun c_33 => ?_) (fun c_33 => by exfalso; omega)
      refine lv_aload_n hx hb dX6_readOne_78 rfl (lv_at hl 1 rfl) ?_
      refine lv_dup hx hb dX6_readOne_79 rfl ?_
      refine hk_geti hx hb hts hC_6 hown hW (gx.S hM) tt_6 2 (by decide) rfl kw_127 ⟨rfl, rfl, rfl⟩ fw_6 dX6_readOne_80 ?_
      refine lv_iconst (v := 1) hx hb dX6_readOne_83 (by decide) ?_
      refine lv_iadd hx hb dX6_readOne_84 ?_
      have rg_34 := i32_r w_6
      refine lv_topi (fun x_35 ex_35 => ?_)
      have zx_35 : x_35.toInt = w_6.toInt + 1 := by rw [ex_35]; exact i32_add rfl (by decide) (by omega) (by omega)
      refine hx_puti hx hb hts hC_6 hown hW hT (hx_S.rf (M := [(6, 2)])) (gx.S hM) tt_6 2 (by decide) rfl kw_127 ⟨rfl, rfl, rfl⟩ rfl (x := x_35) ⟨by omega, by omega⟩ rfl rfl rfl (List.mem_singleton.mpr rfl) dX6_readOne_85 (fun H locs h_36 eh_36 hW hT hs => ?_)
      replace hM := hM.tr (hs.mono (by decide))
      have f_37 : h_36.2.1 x 2 = x_35 := by rw [eh_36]; exact hx_pi_at _ _ _ _
      refine lv_aload_n hx hb dX6_readOne_88 rfl (lv_at hl 1 rfl) ?_
      refine lv_iload_n hx hb dX6_readOne_89 rfl (lv_at hl 2 rfl) ?_
      refine lv_iconst (v := 1) hx hb dX6_readOne_90 (by decide) ?_
      refine lv_iadd hx hb dX6_readOne_91 ?_
      refine lv_topi (fun x_38 ex_38 => ?_)
      obtain rfl : x_38 = (8 : Int32) := ex_38.trans (by decide)
      have zc_8 : (8 : Int32).toInt = 8 := by decide
      refine hx_goi (hx_runVX (As := [.int (8 : Int32)]) (rest := []) ⟨hx, hb, hml, hown, hts⟩ hW (gx.S hM) tt_6 (T := TX6) (N := 7) rfl (t_X6_readEither_8 l dC dI dA L_26 h_36 H.size b0 x hT (gx.S hM) qt (gqt.S hM) ((hM.o gx trivial rfl).2.trans f_x_0) qi (gqi.S hM) ((hM.o gx trivial rfl).2.trans f_x_6)) hZ (cwV 1 hts (hx_gV kw_556 kw_553 kw_555 kw_12 kw_95) rfl rfl rfl (by decide +kernel) ⟨Nat.le_of_ble_eq_true rfl, Nat.le_of_ble_eq_true rfl⟩) rfl hl.1 rfl (Nat.le_of_ble_eq_true rfl) dX6_readOne_92 ⟨Nat.le_of_ble_eq_true rfl, Nat.le_of_ble_eq_true rfl⟩) hW (fun r_41 L_39 h_40 H locs p_42 hW => ?_)
      obtain ⟨hr_43, hT, hs⟩ := p_42
      replace hT : hx_T T_tb L_39 h_40 := hT
      replace hs : hx_S T_tb [(0, 4), (6, 2), (6, 3), (6, 5), (12, 0)] L_26 h_36 L_39 h_40 := hs
      replace hM := hM.tr (hs.mono (by decide))
      refine hb_if_ne (zx := r_41.toInt) (tgt := 100) hx hb rfl dX6_readOne_95 (by decide) (fun c_44 => ?_) (fun c_44 => ?_)
      · skip
        refine lv_aload_n hx hb dX6_readOne_100 rfl (lv_at hl 1 rfl) ?_
        refine hx_gov (hx_runV (As := []) (rest := []) ⟨hx, hb, hml, hown, hts⟩ hW (gx.S hM) tt_6 (T := TX6) (N := 7) rfl (t_X6_skipBlanks l dC dI dA L_39 h_40 H.size x hT (gx.S hM) qt (gqt.S hM) ((hM.o gx trivial rfl).2.trans f_x_0)) (cwV 0 hts (hx_gV kw_458 kw_455 kw_457 kw_1 kw_95) rfl rfl rfl (by decide +kernel) ⟨Nat.le_of_ble_eq_true rfl, Nat.le_of_ble_eq_true rfl⟩) rfl hl.1 rfl (Nat.le_of_ble_eq_true rfl) dX6_readOne_101 ⟨Nat.le_of_ble_eq_true rfl, Nat.le_of_ble_eq_true rfl⟩) hW (fun L_45 h_46 H locs p_48 hW => ?_)
        obtain ⟨hT, hs⟩ := p_48
        replace hT : hx_T T_tb L_45 h_46 := hT
        replace hs : hx_S T_tb [(6, 2)] L_39 h_40 L_45 h_46 := hs
        replace hM := hM.tr (hs.mono (by decide))
        refine lv_aload_n hx hb dX6_readOne_104 rfl (lv_at hl 1 rfl) ?_
        refine lv_bipush (v := 41) hx hb dX6_readOne_105 (by decide) ?_
        have zc_41 : (41 : Int32).toInt = 41 := by decide
        obtain ⟨fv_50, efv_50⟩ : ∃ y : Int32, y = h_46.2.1 x 2 := ⟨_, rfl⟩
        have bfv_50 := hT.gi (gx.S hM) tt_6 (k := 2) rfl
        rw [← efv_50] at bfv_50
        have bfv_50 : 0 ≤ fv_50.toInt ∧ fv_50.toInt ≤ 402 := bfv_50
        have ffv_50 := efv_50.symm
        refine hx_goi (hx_runV (As := [.int (41 : Int32)]) (rest := []) ⟨hx, hb, hml, hown, hts⟩ hW (gx.S hM) tt_6 (T := TX6) (N := 7) rfl (t_X6_isByte l dC dI dA L_45 h_46 H.size x (41 : Int32) hT (gx.S hM) fv_50 ffv_50 qt (gqt.S hM) ((hM.o gx trivial rfl).2.trans f_x_0)) (cwV 1 hts (hx_gV kw_569 kw_566 kw_568 kw_15 kw_95) rfl rfl rfl (by decide +kernel) ⟨Nat.le_of_ble_eq_true rfl, Nat.le_of_ble_eq_true rfl⟩) rfl hl.1 rfl (Nat.le_of_ble_eq_true rfl) dX6_readOne_107 ⟨Nat.le_of_ble_eq_true rfl, Nat.le_of_ble_eq_true rfl⟩) hW (fun r_53 L_51 h_52 H locs p_54 hW => ?_)
        obtain ⟨hr_55, hT, hs⟩ := p_54
        replace hT : hx_T T_tb L_51 h_52 := hT
        replace hs : hx_S T_tb [] L_45 h_46 L_51 h_52 := hs
        replace ffv_50 := (hs.o (gx.S hM) trivial rfl).1.trans ffv_50
        replace hM := hM.tr (hs.mono (by decide))
        refine hb_if_ne (zx := r_53.toInt) (tgt := 123) hx hb rfl dX6_readOne_110 (by decide) (fun c_56 => ?_) (fun c_56 => ?_)
        · skip
          refine lv_aload_n hx hb dX6_readOne_123 rfl (lv_at hl 1 rfl) ?_
          refine lv_dup hx hb dX6_readOne_124 rfl ?_
          refine hk_geti hx hb hts hC_6 hown hW (gx.S hM) tt_6 2 (by decide) rfl kw_127 ⟨rfl, rfl, rfl⟩ ffv_50 dX6_readOne_125 ?_
          refine lv_iconst (v := 1) hx hb dX6_readOne_128 (by decide) ?_
          refine lv_iadd hx hb dX6_readOne_129 ?_
          have rg_57 := i32_r fv_50
          refine lv_topi (fun x_58 ex_58 => ?_)
          have zx_58 : x_58.toInt = fv_50.toInt + 1 := by rw [ex_58]; exact i32_add rfl (by decide) (by omega) (by omega)
          refine hx_puti hx hb hts hC_6 hown hW hT (hx_S.rf (M := [(6, 2)])) (gx.S hM) tt_6 2 (by decide) rfl kw_127 ⟨rfl, rfl, rfl⟩ rfl (x := x_58) ⟨by omega, by omega⟩ rfl rfl rfl (List.mem_singleton.mpr rfl) dX6_readOne_130 (fun H locs h_59 eh_59 hW hT hs => ?_)
          replace hM := hM.tr (hs.mono (by decide))
          have f_60 : h_59.2.1 x 2 = x_58 := by rw [eh_59]; exact hx_pi_at _ _ _ _
          refine lv_iconst (v := 1) hx hb dX6_readOne_133 (by decide) ?_
          exact hx_retz hx hb hr rfl hlk hW ⟨(by decide), hT, hM⟩ dX6_readOne_134
        · skip
          refine lv_aload_n hx hb dX6_readOne_113 rfl (lv_at hl 1 rfl) ?_
          refine lv_aload_n hx hb dX6_readOne_114 rfl (lv_at hl 1 rfl) ?_
          refine hk_geti hx hb hts hC_6 hown hW (gx.S hM) tt_6 2 (by decide) rfl kw_127 ⟨rfl, rfl, rfl⟩ ffv_50 dX6_readOne_115 ?_
          refine lv_iconst (v := 0) hx hb dX6_readOne_118 (by decide) ?_
          have zc_0 : (0 : Int32).toInt = 0 := by decide
          refine hx_goi (hx_runV (As := [.int fv_50, .int (0 : Int32)]) (rest := []) ⟨hx, hb, hml, hown, hts⟩ hW (gx.S hM) tt_6 (T := TX6) (N := 7) rfl (t_X6_refuse l dC dI dA L_51 h_52 H.size x fv_50 (0 : Int32) hT (gx.S hM)) (cwV 2 hts (hx_gV kw_527 kw_524 kw_526 kw_6 kw_95) rfl rfl rfl (by decide +kernel) ⟨Nat.le_of_ble_eq_true rfl, Nat.le_of_ble_eq_true rfl⟩) rfl hl.1 rfl (Nat.le_of_ble_eq_true rfl) dX6_readOne_119 ⟨Nat.le_of_ble_eq_true rfl, Nat.le_of_ble_eq_true rfl⟩) hW (fun r_63 L_61 h_62 H locs p_64 hW => ?_)
          obtain ⟨hr_65, hT, hs⟩ := p_64
          replace hT : hx_T T_tb L_61 h_62 := hT
          replace hs : hx_S T_tb [(6, 3)] L_51 h_52 L_61 h_62 := hs
          replace ffv_50 := (hs.o (gx.S hM) trivial rfl).1.trans ffv_50
          replace hM := hM.tr (hs.mono (by decide))
          exact hx_retz hx hb hr (hx_nar01 (by omega)) hlk hW ⟨(by omega), hT, hM⟩ dX6_readOne_122
      · skip
        refine lv_iconst (v := 0) hx hb dX6_readOne_98 (by decide) ?_
        exact hx_retz hx hb hr rfl hlk hW ⟨(by decide), hT, hM⟩ dX6_readOne_99
    · skip
      refine lv_aload_n hx hb dX6_readOne_20 rfl (lv_at hl 1 rfl) ?_
      refine hx_goi (hx_runVX (As := []) (rest := []) ⟨hx, hb, hml, hown, hts⟩ hW (gx.S hM) tt_6 (T := TX6) (N := 7) rfl (t_X6_readTerm l dC dI dA L_26 h_27 H.size b0 x hT (gx.S hM) qt (gqt.S hM) ((hM.o gx trivial rfl).2.trans f_x_0) qi (gqi.S hM) ((hM.o gx trivial rfl).2.trans f_x_6)) hZ (cwV 0 hts (hx_gV kw_573 kw_570 kw_572 kw_16 kw_95) rfl rfl rfl (by decide +kernel) ⟨Nat.le_of_ble_eq_true rfl, Nat.le_of_ble_eq_true rfl⟩) rfl hl.1 rfl (Nat.le_of_ble_eq_true rfl) dX6_readOne_21 ⟨Nat.le_of_ble_eq_true rfl, Nat.le_of_ble_eq_true rfl⟩) hW (fun r_68 L_66 h_67 H locs p_69 hW => ?_)
      obtain ⟨hr_70, hT, hs⟩ := p_69
      replace hT : hx_T T_tb L_66 h_67 := hT
      replace hs : hx_S T_tb [(0, 4), (6, 2), (6, 3), (6, 5), (12, 0)] L_26 h_27 L_66 h_67 := hs
      replace hM := hM.tr (hs.mono (by decide))
      exact hx_retz hx hb hr (hx_nar01 (by omega)) hlk hW ⟨(by omega), hT, hM⟩ dX6_readOne_24


set_option maxHeartbeats 4000000 in
set_option maxRecDepth 100000 in
theorem t_X6_readEither_7 (l : Launch) (dC : Nat → ClassId) (dI : Nat → Nat → Nat) (dA : Nat → ClassId) (L : List Nat) (h : hx_h) (sz : Nat) (b0 : hx_z) (x : Nat) (hT : hx_T T_tb L h) (gx : hx_g L h x 6) (qt : Nat) (gqt : hx_g L h qt 42) (f_x_0 : h.2.2 x 0 = some qt) (qi : Nat) (gqi : hx_g L h qi 0) (f_x_6 : h.2.2 x 6 = some qi) : Met l yX6_readEither (Cond.code yX6_readEither cX6_readEither 5 (some .boolean) :: hx_all) ({ frames := 10, cells := 0, slots := 0, locals := 226 }) (va_Pc [.ref x, .int (7 : Int32)] (hx_BX T_tb (P_ty dA) (dC, dI) vwCl L h sz b0)) (va_Qi (fun (r : Int32) (u : List Nat × hx_h) => (r.toInt = 0 ∨ r.toInt = 1) ∧ hx_T T_tb u.1 u.2 ∧ hx_S T_tb [(0, 4), (6, 2), (6, 3), (6, 5), (12, 0)] L h u.1 u.2) (hx_E T_tb (P_ty dA) (dC, dI) vwCl (hx_A L sz)) (hx_A L sz)) 0 0 (hx_A L sz) := by
  refine hx_metX (lv := [(0, .ref x), (1, .int (7 : Int32))]) (by decide +kernel) rfl (Nat.le_of_ble_eq_true rfl) rfl ?_
  intro p e s m below meth c hx hb hml hr hlk hts0 hown hin hsz hW hZ ls hl
  have hts : ∀ w ∈ hx_all, w.before _ s = true := fun w hw => hts0 w (List.mem_cons_of_mem _ hw)
  have hown : s.vm.findClass "SmallCourt$Reader" = some m.cls := hown
  have hM : hx_S T_tb [(0, 4), (6, 2), (6, 3), (6, 5), (12, 0)] L h L h := hx_S.rf
  obtain ⟨zLT, zLA, zMT, zMA, zCS, zSF, zVS, zVR⟩ := hZ.2.2.2.2.2.2
  refine lv_iconst (v := 0) hx hb dX6_readEither_0 (by decide) ?_
  refine lv_istore_n (lv' := [(2, .int (0 : Int32)), (0, .ref x), (1, .int (7 : Int32))]) hx hb dX6_readEither_1 rfl hl (by decide) rfl (fun ls hl => ?_)
  refine lv_iconst (v := 0) hx hb dX6_readEither_2 (by decide) ?_
  refine lv_istore_n (lv' := [(3, .int (0 : Int32)), (2, .int (0 : Int32)), (0, .ref x), (1, .int (7 : Int32))]) hx hb dX6_readEither_3 rfl hl (by decide) rfl (fun ls hl => ?_)
  refine lv_iconst (v := 0) hx hb dX6_readEither_4 (by decide) ?_
  refine lv_istore (lv' := [(4, .int (0 : Int32)), (3, .int (0 : Int32)), (2, .int (0 : Int32)), (0, .ref x), (1, .int (7 : Int32))]) hx hb dX6_readEither_5 hl (by decide) rfl (fun ls hl => ?_)
  have loop7 : ∀ (n7 : Nat) (iv7_2 iv7_3 iv7_4 : Int32) (H : Heap) (locs : List Loc) (hL1 : List Nat) (hl1 : hx_h), 0 ≤ iv7_2.toInt → iv7_2.toInt ≤ 1 → 0 ≤ iv7_3.toInt → iv7_3.toInt ≤ 1 → 0 ≤ iv7_4.toInt → iv7_4.toInt ≤ 401 → ∀ (ls : Array Slot), 401 - iv7_4.toInt < (n7 : Int) → hx_W T_tb (P_ty dA) (dC, dI) vwCl (hx_A L sz) s.heap hL1 hl1 s H locs → hx_T T_tb hL1 hl1 → hx_S T_tb [(0, 4), (6, 2), (6, 3), (6, 5), (12, 0)] L h hL1 hl1 → lv_has ls 5 [(4, .int iv7_4), (3, .int iv7_3), (2, .int iv7_2), (0, .ref x), (1, .int (7 : Int32))] → W p l e ({ frames := 10, cells := 0, slots := 0, locals := 226 }) s m ([.ref x, .int (7 : Int32)] : List Value).toArray below meth c H locs 0 0 (MQ below (va_Qi (fun (r : Int32) (u : List Nat × hx_h) => (r.toInt = 0 ∨ r.toInt = 1) ∧ hx_T T_tb u.1 u.2 ∧ hx_S T_tb [(0, 4), (6, 2), (6, 3), (6, 5), (12, 0)] L h u.1 u.2) (hx_E T_tb (P_ty dA) (dC, dI) vwCl (hx_A L sz)) (hx_A L sz)) ([.ref x, .int (7 : Int32)] : List Value).toArray s 0 0 (hx_A L sz)) (F0 m 7 ls []) := by
    intro n7
    induction n7 with
    | zero => intro iv7_2 iv7_3 iv7_4 H locs hL1 hl1 bliv7_2 buiv7_2 bliv7_3 buiv7_3 bliv7_4 buiv7_4  ls hn7; exfalso; omega
    | succ n7 ih7 =>
      intro iv7_2 iv7_3 iv7_4 H locs hL1 hl1 bliv7_2 buiv7_2 bliv7_3 buiv7_3 bliv7_4 buiv7_4  ls hn7 hW hT hM   hl
      refine lv_iload hx hb dX6_readEither_7 (lv_at hl 0 rfl) ?_
      refine lv_aload_n hx hb dX6_readEither_9 rfl (lv_at hl 3 rfl) ?_
      refine hx_geti hx hb hts hC_6 hown hW hT (gx.S hM) tt_6 1 (by decide) rfl kw_126 ⟨rfl, rfl, rfl⟩ dX6_readEither_10 (fun x_1 ex_1 lx_1 ux_1 => ?_)
      have fx_1 := ex_1.symm
      refine hb_icmp_gt (zx := iv7_4.toInt) (zy := x_1.toInt) (tgt := 102) hx hb rfl rfl dX6_readEither_13 (by decide) (fun c_2 => ?_) (fun c_2 => ?_)
      · skip
        refine lv_iconst (v := 0) hx hb dX6_readEither_102 (by decide) ?_
        exact hx_retz hx hb hr rfl hlk hW ⟨(by decide), hT, hM⟩ dX6_readEither_103
      · skip
        refine lv_aload_n hx hb dX6_readEither_16 rfl (lv_at hl 3 rfl) ?_
        refine lv_iload_n hx hb dX6_readEither_17 rfl (lv_at hl 4 rfl) ?_
        have zc_7 : (7 : Int32).toInt = 7 := by decide
        refine hx_goi (hx_runVX (As := [.int (7 : Int32)]) (rest := []) ⟨hx, hb, hml, hown, hts⟩ hW (gx.S hM) tt_6 (T := TX6) (N := 7) rfl (t_X6_readOne_7 l dC dI dA hL1 hl1 H.size b0 x hT (gx.S hM) qt (gqt.S hM) ((hM.o gx trivial rfl).2.trans f_x_0) qi (gqi.S hM) ((hM.o gx trivial rfl).2.trans f_x_6)) hZ (cwV 1 hts (hx_gV kw_560 kw_557 kw_559 kw_13 kw_95) rfl rfl rfl (by decide +kernel) ⟨Nat.le_of_ble_eq_true rfl, Nat.le_of_ble_eq_true rfl⟩) rfl hl.1 rfl (Nat.le_of_ble_eq_true rfl) dX6_readEither_18 ⟨Nat.le_of_ble_eq_true rfl, Nat.le_of_ble_eq_true rfl⟩) hW (fun r_5 L_3 h_4 H locs p_6 hW => ?_)
        obtain ⟨hr_7, hT, hs⟩ := p_6
        replace hT : hx_T T_tb L_3 h_4 := hT
        replace hs : hx_S T_tb [(0, 4), (6, 2), (6, 3), (6, 5), (12, 0)] hL1 hl1 L_3 h_4 := hs
        replace fx_1 := (hs.o (gx.S hM) trivial rfl).1.trans fx_1
        replace hM := hM.tr (hs.mono (by decide))
        refine hb_if_eq (zx := r_5.toInt) (tgt := 102) hx hb rfl dX6_readEither_21 (by decide) (fun c_8 => ?_) (fun c_8 => ?_)
        · skip
          refine lv_iconst (v := 0) hx hb dX6_readEither_102 (by decide) ?_
          exact hx_retz hx hb hr rfl hlk hW ⟨(by decide), hT, hM⟩ dX6_readEither_103
        · skip
          refine lv_iload_n hx hb dX6_readEither_24 rfl (lv_at hl 2 rfl) ?_
          refine hb_if_eq (zx := iv7_2.toInt) (tgt := 36) hx hb rfl dX6_readEither_25 (by decide) (fun c_9 => ?_) (fun c_9 => ?_)
          · skip
            refine lv_aload_n hx hb dX6_readEither_36 rfl (lv_at hl 3 rfl) ?_
            refine va_ldcS (tx := P_st.getD 2 "") hx hb hown (zVR 2 (by decide)) dX6_readEither_37 ?_
            refine hx_goi (hx_runVX (As := [.ref (b0.2.2.2.1 2)]) (rest := []) ⟨hx, hb, hml, hown, hts⟩ hW (gx.S hM) tt_6 (T := TX6) (N := 7) rfl (t_X6_isNextWord l dC dI dA L_3 h_4 H.size b0 x 2 hT (gx.S hM) (by decide) qt (gqt.S hM) ((hM.o gx trivial rfl).2.trans f_x_0)) hZ (cwV 1 hts (hx_gV kw_565 kw_562 kw_564 kw_14 kw_95) rfl rfl rfl (by decide +kernel) ⟨Nat.le_of_ble_eq_true rfl, Nat.le_of_ble_eq_true rfl⟩) rfl hl.1 rfl (Nat.le_of_ble_eq_true rfl) dX6_readEither_39 ⟨Nat.le_of_ble_eq_true rfl, Nat.le_of_ble_eq_true rfl⟩) hW (fun r_12 L_10 h_11 H locs p_13 hW => ?_)
            obtain ⟨⟨w_15, fw_15, hr_14⟩, hT, hs⟩ := p_13
            replace hT : hx_T T_tb L_10 h_11 := hT
            replace hs : hx_S T_tb [(6, 2)] L_3 h_4 L_10 h_11 := hs
            replace fx_1 := (hs.o (gx.S hM) trivial rfl).1.trans fx_1
            replace hM := hM.tr (hs.mono (by decide))
            have fw_15 : h_11.2.1 x 2 = w_15 := fw_15
            have bw_15 := hT.gi (gx.S hM) tt_6 (k := 2) rfl
            rw [fw_15] at bw_15
            have bw_15 : 0 ≤ w_15.toInt ∧ w_15.toInt ≤ 402 := bw_15
            refine lv_istore_n (lv' := [(2, .int r_12), (4, .int iv7_4), (3, .int iv7_3), (0, .ref x), (1, .int (7 : Int32))]) hx hb dX6_readEither_42 rfl hl (by decide) rfl (fun ls hl => ?_)
            refine lv_iload_n hx hb dX6_readEither_43 rfl (lv_at hl 0 rfl) ?_
            refine hb_if_eq (zx := r_12.toInt) (tgt := 60) hx hb rfl dX6_readEither_44 (by decide) (fun c_16 => ?_) (fun c_16 => ?_)
            · skip
              refine lv_iload_n hx hb dX6_readEither_60 rfl (lv_at hl 2 rfl) ?_
              refine hb_if_eq (zx := iv7_3.toInt) (tgt := 73) hx hb rfl dX6_readEither_61 (by decide) (fun c_17 => ?_) (fun c_17 => ?_)
              · skip
                refine lv_aload_n hx hb dX6_readEither_73 rfl (lv_at hl 3 rfl) ?_
                refine va_ldcS (tx := P_st.getD 3 "") hx hb hown (zVR 3 (by decide)) dX6_readEither_74 ?_
                refine hx_goi (hx_runVX (As := [.ref (b0.2.2.2.1 3)]) (rest := []) ⟨hx, hb, hml, hown, hts⟩ hW (gx.S hM) tt_6 (T := TX6) (N := 7) rfl (t_X6_isNextWord l dC dI dA L_10 h_11 H.size b0 x 3 hT (gx.S hM) (by decide) qt (gqt.S hM) ((hM.o gx trivial rfl).2.trans f_x_0)) hZ (cwV 1 hts (hx_gV kw_565 kw_562 kw_564 kw_14 kw_95) rfl rfl rfl (by decide +kernel) ⟨Nat.le_of_ble_eq_true rfl, Nat.le_of_ble_eq_true rfl⟩) rfl hl.1 rfl (Nat.le_of_ble_eq_true rfl) dX6_readEither_76 ⟨Nat.le_of_ble_eq_true rfl, Nat.le_of_ble_eq_true rfl⟩) hW (fun r_20 L_18 h_19 H locs p_21 hW => ?_)
                obtain ⟨⟨w_23, fw_23, hr_22⟩, hT, hs⟩ := p_21
                replace hT : hx_T T_tb L_18 h_19 := hT
                replace hs : hx_S T_tb [(6, 2)] L_10 h_11 L_18 h_19 := hs
                replace fx_1 := (hs.o (gx.S hM) trivial rfl).1.trans fx_1
                replace hM := hM.tr (hs.mono (by decide))
                have fw_23 : h_19.2.1 x 2 = w_23 := fw_23
                have bw_23 := hT.gi (gx.S hM) tt_6 (k := 2) rfl
                rw [fw_23] at bw_23
                have bw_23 : 0 ≤ w_23.toInt ∧ w_23.toInt ≤ 402 := bw_23
                refine lv_istore_n (lv' := [(3, .int r_20), (2, .int r_12), (4, .int iv7_4), (0, .ref x), (1, .int (7 : Int32))]) hx hb dX6_readEither_79 rfl hl (by decide) rfl (fun ls hl => ?_)
                refine lv_iload_n hx hb dX6_readEither_80 rfl (lv_at hl 0 rfl) ?_
                refine hb_if_ne (zx := r_20.toInt) (tgt := 86) hx hb rfl dX6_readEither_81 (by decide) (fun c_24 => ?_) (fun c_24 => ?_)
                · skip
                  refine lv_aload_n hx hb dX6_readEither_86 rfl (lv_at hl 3 rfl) ?_
                  refine lv_dup hx hb dX6_readEither_87 rfl ?_
                  refine hk_geti hx hb hts hC_6 hown hW (gx.S hM) tt_6 2 (by decide) rfl kw_127 ⟨rfl, rfl, rfl⟩ fw_23 dX6_readEither_88 ?_
                  refine lv_iconst (v := 2) hx hb dX6_readEither_91 (by decide) ?_
                  refine lv_iadd hx hb dX6_readEither_92 ?_
                  have rg_25 := i32_r w_23
                  refine lv_topi (fun x_26 ex_26 => ?_)
                  have zx_26 : x_26.toInt = w_23.toInt + 2 := by rw [ex_26]; exact i32_add rfl (by decide) (by omega) (by omega)
                  refine hx_puti hx hb hts hC_6 hown hW hT (hx_S.rf (M := [(6, 2)])) (gx.S hM) tt_6 2 (by decide) rfl kw_127 ⟨rfl, rfl, rfl⟩ rfl (x := x_26) ⟨by omega, by omega⟩ rfl rfl rfl (List.mem_singleton.mpr rfl) dX6_readEither_93 (fun H locs h_27 eh_27 hW hT hs => ?_)
                  replace fx_1 := (hs.o (gx.S hM) trivial rfl).1.trans fx_1
                  replace hM := hM.tr (hs.mono (by decide))
                  have f_28 : h_27.2.1 x 2 = x_26 := by rw [eh_27]; exact hx_pi_at _ _ _ _
                  obtain ⟨x_29, ex_29⟩ : ∃ y : Int32, y = iv7_4 + Int32.ofInt 1 := ⟨_, rfl⟩
                  have rg_30 := i32_r iv7_4
                  have zx_29 : x_29.toInt = iv7_4.toInt + (1) := by rw [ex_29]; exact i32_add rfl (by decide) (by omega) (by omega)
                  refine lv_iinc (v := x_29) (lv' := [(4, .int x_29), (3, .int r_20), (2, .int r_12), (0, .ref x), (1, .int (7 : Int32))]) hx hb dX6_readEither_96 hl (k := 2) rfl ex_29.symm (by decide) rfl (fun ls hl => ?_)
                  refine lv_goto (tgt := 7) hx hb dX6_readEither_99 (by decide) ?_
                  exact ih7 r_12 r_20 x_29 _ _ L_18 h_27 (by omega) (by omega) (by omega) (by omega) (by omega) (by omega)  ls (by omega) hW hT hM   (lv_sub hl [0, 1, 2, 3, 4] rfl)
                · skip
                  refine lv_iconst (v := 1) hx hb dX6_readEither_84 (by decide) ?_
                  exact hx_retz hx hb hr rfl hlk hW ⟨(by decide), hT, hM⟩ dX6_readEither_85
              · skip
                refine lv_aload_n hx hb dX6_readEither_64 rfl (lv_at hl 3 rfl) ?_
                refine hk_getr hx hb hts hC_6 hown hW (gx.S hM) tt_6 6 (by decide) rfl kw_131 ⟨rfl, rfl, rfl⟩ ((hM.o gx trivial rfl).2.trans f_x_6) dX6_readEither_65 ?_
                refine lv_bipush (v := -2) hx hb dX6_readEither_68 (by decide) ?_
                have zc_m2 : (-2 : Int32).toInt = -2 := by decide
                refine hx_gov (hx_runV (As := [.int (-2 : Int32)]) (rest := []) ⟨hx, hb, hml, hown, hts⟩ hW (gqi.S hM) tt_0 (T := TX0) (N := 5) rfl (t_X0_addProof l dC dI dA L_10 h_11 H.size qi (-2 : Int32) hT (gqi.S hM)) (cwV 1 hts (hx_gV kw_583 kw_580 kw_581 kw_582 kw_96) rfl rfl rfl (by decide +kernel) ⟨Nat.le_of_ble_eq_true rfl, Nat.le_of_ble_eq_true rfl⟩) rfl hl.1 rfl (Nat.le_of_ble_eq_true rfl) dX6_readEither_70 ⟨Nat.le_of_ble_eq_true rfl, Nat.le_of_ble_eq_true rfl⟩) hW (fun L_31 h_32 H locs p_34 hW => ?_)
                obtain ⟨hT, hs⟩ := p_34
                replace hT : hx_T T_tb L_31 h_32 := hT
                replace hs : hx_S T_tb [(0, 4), (12, 0)] L_10 h_11 L_31 h_32 := hs
                replace fx_1 := (hs.o (gx.S hM) trivial rfl).1.trans fx_1
                replace fw_15 := (hs.o (gx.S hM) trivial rfl).1.trans fw_15
                replace hM := hM.tr (hs.mono (by decide))
                refine lv_aload_n hx hb dX6_readEither_73 rfl (lv_at hl 3 rfl) ?_
                refine va_ldcS (tx := P_st.getD 3 "") hx hb hown (zVR 3 (by decide)) dX6_readEither_74 ?_
                refine hx_goi (hx_runVX (As := [.ref (b0.2.2.2.1 3)]) (rest := []) ⟨hx, hb, hml, hown, hts⟩ hW (gx.S hM) tt_6 (T := TX6) (N := 7) rfl (t_X6_isNextWord l dC dI dA L_31 h_32 H.size b0 x 3 hT (gx.S hM) (by decide) qt (gqt.S hM) ((hM.o gx trivial rfl).2.trans f_x_0)) hZ (cwV 1 hts (hx_gV kw_565 kw_562 kw_564 kw_14 kw_95) rfl rfl rfl (by decide +kernel) ⟨Nat.le_of_ble_eq_true rfl, Nat.le_of_ble_eq_true rfl⟩) rfl hl.1 rfl (Nat.le_of_ble_eq_true rfl) dX6_readEither_76 ⟨Nat.le_of_ble_eq_true rfl, Nat.le_of_ble_eq_true rfl⟩) hW (fun r_38 L_36 h_37 H locs p_39 hW => ?_)
                obtain ⟨⟨w_41, fw_41, hr_40⟩, hT, hs⟩ := p_39
                replace hT : hx_T T_tb L_36 h_37 := hT
                replace hs : hx_S T_tb [(6, 2)] L_31 h_32 L_36 h_37 := hs
                replace fx_1 := (hs.o (gx.S hM) trivial rfl).1.trans fx_1
                replace hM := hM.tr (hs.mono (by decide))
                have fw_41 : h_37.2.1 x 2 = w_41 := fw_41
                have bw_41 := hT.gi (gx.S hM) tt_6 (k := 2) rfl
                rw [fw_41] at bw_41
                have bw_41 : 0 ≤ w_41.toInt ∧ w_41.toInt ≤ 402 := bw_41
                refine lv_istore_n (lv' := [(3, .int r_38), (2, .int r_12), (4, .int iv7_4), (0, .ref x), (1, .int (7 : Int32))]) hx hb dX6_readEither_79 rfl hl (by decide) rfl (fun ls hl => ?_)
                refine lv_iload_n hx hb dX6_readEither_80 rfl (lv_at hl 0 rfl) ?_
                refine hb_if_ne (zx := r_38.toInt) (tgt := 86) hx hb rfl dX6_readEither_81 (by decide) (fun c_42 => ?_) (fun c_42 => ?_)
                · skip
                  refine lv_aload_n hx hb dX6_readEither_86 rfl (lv_at hl 3 rfl) ?_
                  refine lv_dup hx hb dX6_readEither_87 rfl ?_
                  refine hk_geti hx hb hts hC_6 hown hW (gx.S hM) tt_6 2 (by decide) rfl kw_127 ⟨rfl, rfl, rfl⟩ fw_41 dX6_readEither_88 ?_
                  refine lv_iconst (v := 2) hx hb dX6_readEither_91 (by decide) ?_
                  refine lv_iadd hx hb dX6_readEither_92 ?_
                  have rg_43 := i32_r w_41
                  refine lv_topi (fun x_44 ex_44 => ?_)
                  have zx_44 : x_44.toInt = w_41.toInt + 2 := by rw [ex_44]; exact i32_add rfl (by decide) (by omega) (by omega)
                  refine hx_puti hx hb hts hC_6 hown hW hT (hx_S.rf (M := [(6, 2)])) (gx.S hM) tt_6 2 (by decide) rfl kw_127 ⟨rfl, rfl, rfl⟩ rfl (x := x_44) ⟨by omega, by omega⟩ rfl rfl rfl (List.mem_singleton.mpr rfl) dX6_readEither_93 (fun H locs h_45 eh_45 hW hT hs => ?_)
                  replace fx_1 := (hs.o (gx.S hM) trivial rfl).1.trans fx_1
                  replace hM := hM.tr (hs.mono (by decide))
                  have f_46 : h_45.2.1 x 2 = x_44 := by rw [eh_45]; exact hx_pi_at _ _ _ _
                  obtain ⟨x_47, ex_47⟩ : ∃ y : Int32, y = iv7_4 + Int32.ofInt 1 := ⟨_, rfl⟩
                  have rg_48 := i32_r iv7_4
                  have zx_47 : x_47.toInt = iv7_4.toInt + (1) := by rw [ex_47]; exact i32_add rfl (by decide) (by omega) (by omega)
                  refine lv_iinc (v := x_47) (lv' := [(4, .int x_47), (3, .int r_38), (2, .int r_12), (0, .ref x), (1, .int (7 : Int32))]) hx hb dX6_readEither_96 hl (k := 2) rfl ex_47.symm (by decide) rfl (fun ls hl => ?_)
                  refine lv_goto (tgt := 7) hx hb dX6_readEither_99 (by decide) ?_
                  exact ih7 r_12 r_38 x_47 _ _ L_36 h_45 (by omega) (by omega) (by omega) (by omega) (by omega) (by omega)  ls (by omega) hW hT hM   (lv_sub hl [0, 1, 2, 3, 4] rfl)
                · skip
                  refine lv_iconst (v := 1) hx hb dX6_readEither_84 (by decide) ?_
                  exact hx_retz hx hb hr rfl hlk hW ⟨(by decide), hT, hM⟩ dX6_readEither_85
            · skip
              refine lv_aload_n hx hb dX6_readEither_47 rfl (lv_at hl 3 rfl) ?_
              refine lv_dup hx hb dX6_readEither_48 rfl ?_
              refine hk_geti hx hb hts hC_6 hown hW (gx.S hM) tt_6 2 (by decide) rfl kw_127 ⟨rfl, rfl, rfl⟩ fw_15 dX6_readEither_49 ?_
              refine lv_iconst (v := 3) hx hb dX6_readEither_52 (by decide) ?_
              refine lv_iadd hx hb dX6_readEither_53 ?_
              have rg_49 := i32_r w_15
              refine lv_topi (fun x_50 ex_50 => ?_)
              have zx_50 : x_50.toInt = w_15.toInt + 3 := by rw [ex_50]; exact i32_add rfl (by decide) (by omega) (by omega)
              refine hx_puti hx hb hts hC_6 hown hW hT (hx_S.rf (M := [(6, 2)])) (gx.S hM) tt_6 2 (by decide) rfl kw_127 ⟨rfl, rfl, rfl⟩ rfl (x := x_50) ⟨by omega, by omega⟩ rfl rfl rfl (List.mem_singleton.mpr rfl) dX6_readEither_54 (fun H locs h_51 eh_51 hW hT hs => ?_)
              replace fx_1 := (hs.o (gx.S hM) trivial rfl).1.trans fx_1
              replace hM := hM.tr (hs.mono (by decide))
              have f_52 : h_51.2.1 x 2 = x_50 := by rw [eh_51]; exact hx_pi_at _ _ _ _
              refine lv_goto (tgt := 96) hx hb dX6_readEither_57 (by decide) ?_
              obtain ⟨x_53, ex_53⟩ : ∃ y : Int32, y = iv7_4 + Int32.ofInt 1 := ⟨_, rfl⟩
              have rg_54 := i32_r iv7_4
              have zx_53 : x_53.toInt = iv7_4.toInt + (1) := by rw [ex_53]; exact i32_add rfl (by decide) (by omega) (by omega)
              refine lv_iinc (v := x_53) (lv' := [(4, .int x_53), (2, .int r_12), (3, .int iv7_3), (0, .ref x), (1, .int (7 : Int32))]) hx hb dX6_readEither_96 hl (k := 1) rfl ex_53.symm (by decide) rfl (fun ls hl => ?_)
              refine lv_goto (tgt := 7) hx hb dX6_readEither_99 (by decide) ?_
              exact ih7 r_12 iv7_3 x_53 _ _ L_10 h_51 (by omega) (by omega) (by omega) (by omega) (by omega) (by omega)  ls (by omega) hW hT hM   (lv_sub hl [0, 2, 1, 3, 4] rfl)
          · skip
            refine lv_aload_n hx hb dX6_readEither_28 rfl (lv_at hl 3 rfl) ?_
            refine hk_getr hx hb hts hC_6 hown hW (gx.S hM) tt_6 6 (by decide) rfl kw_131 ⟨rfl, rfl, rfl⟩ ((hM.o gx trivial rfl).2.trans f_x_6) dX6_readEither_29 ?_
            refine lv_iconst (v := -1) hx hb dX6_readEither_32 (by decide) ?_
            have zc_m1 : (-1 : Int32).toInt = -1 := by decide
            refine hx_gov (hx_runV (As := [.int (-1 : Int32)]) (rest := []) ⟨hx, hb, hml, hown, hts⟩ hW (gqi.S hM) tt_0 (T := TX0) (N := 5) rfl (t_X0_addProof l dC dI dA L_3 h_4 H.size qi (-1 : Int32) hT (gqi.S hM)) (cwV 1 hts (hx_gV kw_583 kw_580 kw_581 kw_582 kw_96) rfl rfl rfl (by decide +kernel) ⟨Nat.le_of_ble_eq_true rfl, Nat.le_of_ble_eq_true rfl⟩) rfl hl.1 rfl (Nat.le_of_ble_eq_true rfl) dX6_readEither_33 ⟨Nat.le_of_ble_eq_true rfl, Nat.le_of_ble_eq_true rfl⟩) hW (fun L_55 h_56 H locs p_58 hW => ?_)
            obtain ⟨hT, hs⟩ := p_58
            replace hT : hx_T T_tb L_55 h_56 := hT
            replace hs : hx_S T_tb [(0, 4), (12, 0)] L_3 h_4 L_55 h_56 := hs
            replace fx_1 := (hs.o (gx.S hM) trivial rfl).1.trans fx_1
            replace hM := hM.tr (hs.mono (by decide))
            refine lv_aload_n hx hb dX6_readEither_36 rfl (lv_at hl 3 rfl) ?_
            refine va_ldcS (tx := P_st.getD 2 "") hx hb hown (zVR 2 (by decide)) dX6_readEither_37 ?_
            refine hx_goi (hx_runVX (As := [.ref (b0.2.2.2.1 2)]) (rest := []) ⟨hx, hb, hml, hown, hts⟩ hW (gx.S hM) tt_6 (T := TX6) (N := 7) rfl (t_X6_isNextWord l dC dI dA L_55 h_56 H.size b0 x 2 hT (gx.S hM) (by decide) qt (gqt.S hM) ((hM.o gx trivial rfl).2.trans f_x_0)) hZ (cwV 1 hts (hx_gV kw_565 kw_562 kw_564 kw_14 kw_95) rfl rfl rfl (by decide +kernel) ⟨Nat.le_of_ble_eq_true rfl, Nat.le_of_ble_eq_true rfl⟩) rfl hl.1 rfl (Nat.le_of_ble_eq_true rfl) dX6_readEither_39 ⟨Nat.le_of_ble_eq_true rfl, Nat.le_of_ble_eq_true rfl⟩) hW (fun r_62 L_60 h_61 H locs p_63 hW => ?_)
            obtain ⟨⟨w_65, fw_65, hr_64⟩, hT, hs⟩ := p_63
            replace hT : hx_T T_tb L_60 h_61 := hT
            replace hs : hx_S T_tb [(6, 2)] L_55 h_56 L_60 h_61 := hs
            replace fx_1 := (hs.o (gx.S hM) trivial rfl).1.trans fx_1
            replace hM := hM.tr (hs.mono (by decide))
            have fw_65 : h_61.2.1 x 2 = w_65 := fw_65
            have bw_65 := hT.gi (gx.S hM) tt_6 (k := 2) rfl
            rw [fw_65] at bw_65
            have bw_65 : 0 ≤ w_65.toInt ∧ w_65.toInt ≤ 402 := bw_65
            refine lv_istore_n (lv' := [(2, .int r_62), (4, .int iv7_4), (3, .int iv7_3), (0, .ref x), (1, .int (7 : Int32))]) hx hb dX6_readEither_42 rfl hl (by decide) rfl (fun ls hl => ?_)
            refine lv_iload_n hx hb dX6_readEither_43 rfl (lv_at hl 0 rfl) ?_
            refine hb_if_eq (zx := r_62.toInt) (tgt := 60) hx hb rfl dX6_readEither_44 (by decide) (fun c_66 => ?_) (fun c_66 => ?_)
            · skip
              refine lv_iload_n hx hb dX6_readEither_60 rfl (lv_at hl 2 rfl) ?_
              refine hb_if_eq (zx := iv7_3.toInt) (tgt := 73) hx hb rfl dX6_readEither_61 (by decide) (fun c_67 => ?_) (fun c_67 => ?_)
              · skip
                refine lv_aload_n hx hb dX6_readEither_73 rfl (lv_at hl 3 rfl) ?_
                refine va_ldcS (tx := P_st.getD 3 "") hx hb hown (zVR 3 (by decide)) dX6_readEither_74 ?_
                refine hx_goi (hx_runVX (As := [.ref (b0.2.2.2.1 3)]) (rest := []) ⟨hx, hb, hml, hown, hts⟩ hW (gx.S hM) tt_6 (T := TX6) (N := 7) rfl (t_X6_isNextWord l dC dI dA L_60 h_61 H.size b0 x 3 hT (gx.S hM) (by decide) qt (gqt.S hM) ((hM.o gx trivial rfl).2.trans f_x_0)) hZ (cwV 1 hts (hx_gV kw_565 kw_562 kw_564 kw_14 kw_95) rfl rfl rfl (by decide +kernel) ⟨Nat.le_of_ble_eq_true rfl, Nat.le_of_ble_eq_true rfl⟩) rfl hl.1 rfl (Nat.le_of_ble_eq_true rfl) dX6_readEither_76 ⟨Nat.le_of_ble_eq_true rfl, Nat.le_of_ble_eq_true rfl⟩) hW (fun r_70 L_68 h_69 H locs p_71 hW => ?_)
                obtain ⟨⟨w_73, fw_73, hr_72⟩, hT, hs⟩ := p_71
                replace hT : hx_T T_tb L_68 h_69 := hT
                replace hs : hx_S T_tb [(6, 2)] L_60 h_61 L_68 h_69 := hs
                replace fx_1 := (hs.o (gx.S hM) trivial rfl).1.trans fx_1
                replace hM := hM.tr (hs.mono (by decide))
                have fw_73 : h_69.2.1 x 2 = w_73 := fw_73
                have bw_73 := hT.gi (gx.S hM) tt_6 (k := 2) rfl
                rw [fw_73] at bw_73
                have bw_73 : 0 ≤ w_73.toInt ∧ w_73.toInt ≤ 402 := bw_73
                refine lv_istore_n (lv' := [(3, .int r_70), (2, .int r_62), (4, .int iv7_4), (0, .ref x), (1, .int (7 : Int32))]) hx hb dX6_readEither_79 rfl hl (by decide) rfl (fun ls hl => ?_)
                refine lv_iload_n hx hb dX6_readEither_80 rfl (lv_at hl 0 rfl) ?_
                refine hb_if_ne (zx := r_70.toInt) (tgt := 86) hx hb rfl dX6_readEither_81 (by decide) (fun c_74 => ?_) (fun c_74 => ?_)
                · skip
                  refine lv_aload_n hx hb dX6_readEither_86 rfl (lv_at hl 3 rfl) ?_
                  refine lv_dup hx hb dX6_readEither_87 rfl ?_
                  refine hk_geti hx hb hts hC_6 hown hW (gx.S hM) tt_6 2 (by decide) rfl kw_127 ⟨rfl, rfl, rfl⟩ fw_73 dX6_readEither_88 ?_
                  refine lv_iconst (v := 2) hx hb dX6_readEither_91 (by decide) ?_
                  refine lv_iadd hx hb dX6_readEither_92 ?_
                  have rg_75 := i32_r w_73
                  refine lv_topi (fun x_76 ex_76 => ?_)
                  have zx_76 : x_76.toInt = w_73.toInt + 2 := by rw [ex_76]; exact i32_add rfl (by decide) (by omega) (by omega)
                  refine hx_puti hx hb hts hC_6 hown hW hT (hx_S.rf (M := [(6, 2)])) (gx.S hM) tt_6 2 (by decide) rfl kw_127 ⟨rfl, rfl, rfl⟩ rfl (x := x_76) ⟨by omega, by omega⟩ rfl rfl rfl (List.mem_singleton.mpr rfl) dX6_readEither_93 (fun H locs h_77 eh_77 hW hT hs => ?_)
                  replace fx_1 := (hs.o (gx.S hM) trivial rfl).1.trans fx_1
                  replace hM := hM.tr (hs.mono (by decide))
                  have f_78 : h_77.2.1 x 2 = x_76 := by rw [eh_77]; exact hx_pi_at _ _ _ _
                  obtain ⟨x_79, ex_79⟩ : ∃ y : Int32, y = iv7_4 + Int32.ofInt 1 := ⟨_, rfl⟩
                  have rg_80 := i32_r iv7_4
                  have zx_79 : x_79.toInt = iv7_4.toInt + (1) := by rw [ex_79]; exact i32_add rfl (by decide) (by omega) (by omega)
                  refine lv_iinc (v := x_79) (lv' := [(4, .int x_79), (3, .int r_70), (2, .int r_62), (0, .ref x), (1, .int (7 : Int32))]) hx hb dX6_readEither_96 hl (k := 2) rfl ex_79.symm (by decide) rfl (fun ls hl => ?_)
                  refine lv_goto (tgt := 7) hx hb dX6_readEither_99 (by decide) ?_
                  exact ih7 r_62 r_70 x_79 _ _ L_68 h_77 (by omega) (by omega) (by omega) (by omega) (by omega) (by omega)  ls (by omega) hW hT hM   (lv_sub hl [0, 1, 2, 3, 4] rfl)
                · skip
                  refine lv_iconst (v := 1) hx hb dX6_readEither_84 (by decide) ?_
                  exact hx_retz hx hb hr rfl hlk hW ⟨(by decide), hT, hM⟩ dX6_readEither_85
              · skip
                refine lv_aload_n hx hb dX6_readEither_64 rfl (lv_at hl 3 rfl) ?_
                refine hk_getr hx hb hts hC_6 hown hW (gx.S hM) tt_6 6 (by decide) rfl kw_131 ⟨rfl, rfl, rfl⟩ ((hM.o gx trivial rfl).2.trans f_x_6) dX6_readEither_65 ?_
                refine lv_bipush (v := -2) hx hb dX6_readEither_68 (by decide) ?_
                have zc_m2 : (-2 : Int32).toInt = -2 := by decide
                refine hx_gov (hx_runV (As := [.int (-2 : Int32)]) (rest := []) ⟨hx, hb, hml, hown, hts⟩ hW (gqi.S hM) tt_0 (T := TX0) (N := 5) rfl (t_X0_addProof l dC dI dA L_60 h_61 H.size qi (-2 : Int32) hT (gqi.S hM)) (cwV 1 hts (hx_gV kw_583 kw_580 kw_581 kw_582 kw_96) rfl rfl rfl (by decide +kernel) ⟨Nat.le_of_ble_eq_true rfl, Nat.le_of_ble_eq_true rfl⟩) rfl hl.1 rfl (Nat.le_of_ble_eq_true rfl) dX6_readEither_70 ⟨Nat.le_of_ble_eq_true rfl, Nat.le_of_ble_eq_true rfl⟩) hW (fun L_81 h_82 H locs p_84 hW => ?_)
                obtain ⟨hT, hs⟩ := p_84
                replace hT : hx_T T_tb L_81 h_82 := hT
                replace hs : hx_S T_tb [(0, 4), (12, 0)] L_60 h_61 L_81 h_82 := hs
                replace fx_1 := (hs.o (gx.S hM) trivial rfl).1.trans fx_1
                replace fw_65 := (hs.o (gx.S hM) trivial rfl).1.trans fw_65
                replace hM := hM.tr (hs.mono (by decide))
                refine lv_aload_n hx hb dX6_readEither_73 rfl (lv_at hl 3 rfl) ?_
                refine va_ldcS (tx := P_st.getD 3 "") hx hb hown (zVR 3 (by decide)) dX6_readEither_74 ?_
                refine hx_goi (hx_runVX (As := [.ref (b0.2.2.2.1 3)]) (rest := []) ⟨hx, hb, hml, hown, hts⟩ hW (gx.S hM) tt_6 (T := TX6) (N := 7) rfl (t_X6_isNextWord l dC dI dA L_81 h_82 H.size b0 x 3 hT (gx.S hM) (by decide) qt (gqt.S hM) ((hM.o gx trivial rfl).2.trans f_x_0)) hZ (cwV 1 hts (hx_gV kw_565 kw_562 kw_564 kw_14 kw_95) rfl rfl rfl (by decide +kernel) ⟨Nat.le_of_ble_eq_true rfl, Nat.le_of_ble_eq_true rfl⟩) rfl hl.1 rfl (Nat.le_of_ble_eq_true rfl) dX6_readEither_76 ⟨Nat.le_of_ble_eq_true rfl, Nat.le_of_ble_eq_true rfl⟩) hW (fun r_88 L_86 h_87 H locs p_89 hW => ?_)
                obtain ⟨⟨w_91, fw_91, hr_90⟩, hT, hs⟩ := p_89
                replace hT : hx_T T_tb L_86 h_87 := hT
                replace hs : hx_S T_tb [(6, 2)] L_81 h_82 L_86 h_87 := hs
                replace fx_1 := (hs.o (gx.S hM) trivial rfl).1.trans fx_1
                replace hM := hM.tr (hs.mono (by decide))
                have fw_91 : h_87.2.1 x 2 = w_91 := fw_91
                have bw_91 := hT.gi (gx.S hM) tt_6 (k := 2) rfl
                rw [fw_91] at bw_91
                have bw_91 : 0 ≤ w_91.toInt ∧ w_91.toInt ≤ 402 := bw_91
                refine lv_istore_n (lv' := [(3, .int r_88), (2, .int r_62), (4, .int iv7_4), (0, .ref x), (1, .int (7 : Int32))]) hx hb dX6_readEither_79 rfl hl (by decide) rfl (fun ls hl => ?_)
                refine lv_iload_n hx hb dX6_readEither_80 rfl (lv_at hl 0 rfl) ?_
                refine hb_if_ne (zx := r_88.toInt) (tgt := 86) hx hb rfl dX6_readEither_81 (by decide) (fun c_92 => ?_) (fun c_92 => ?_)
                · skip
                  refine lv_aload_n hx hb dX6_readEither_86 rfl (lv_at hl 3 rfl) ?_
                  refine lv_dup hx hb dX6_readEither_87 rfl ?_
                  refine hk_geti hx hb hts hC_6 hown hW (gx.S hM) tt_6 2 (by decide) rfl kw_127 ⟨rfl, rfl, rfl⟩ fw_91 dX6_readEither_88 ?_
                  refine lv_iconst (v := 2) hx hb dX6_readEither_91 (by decide) ?_
                  refine lv_iadd hx hb dX6_readEither_92 ?_
                  have rg_93 := i32_r w_91
                  refine lv_topi (fun x_94 ex_94 => ?_)
                  have zx_94 : x_94.toInt = w_91.toInt + 2 := by rw [ex_94]; exact i32_add rfl (by decide) (by omega) (by omega)
                  refine hx_puti hx hb hts hC_6 hown hW hT (hx_S.rf (M := [(6, 2)])) (gx.S hM) tt_6 2 (by decide) rfl kw_127 ⟨rfl, rfl, rfl⟩ rfl (x := x_94) ⟨by omega, by omega⟩ rfl rfl rfl (List.mem_singleton.mpr rfl) dX6_readEither_93 (fun H locs h_95 eh_95 hW hT hs => ?_)
                  replace fx_1 := (hs.o (gx.S hM) trivial rfl).1.trans fx_1
                  replace hM := hM.tr (hs.mono (by decide))
                  have f_96 : h_95.2.1 x 2 = x_94 := by rw [eh_95]; exact hx_pi_at _ _ _ _
                  obtain ⟨x_97, ex_97⟩ : ∃ y : Int32, y = iv7_4 + Int32.ofInt 1 := ⟨_, rfl⟩
                  have rg_98 := i32_r iv7_4
                  have zx_97 : x_97.toInt = iv7_4.toInt + (1) := by rw [ex_97]; exact i32_add rfl (by decide) (by omega) (by omega)
                  refine lv_iinc (v := x_97) (lv' := [(4, .int x_97), (3, .int r_88), (2, .int r_62), (0, .ref x), (1, .int (7 : Int32))]) hx hb dX6_readEither_96 hl (k := 2) rfl ex_97.symm (by decide) rfl (fun ls hl => ?_)
                  refine lv_goto (tgt := 7) hx hb dX6_readEither_99 (by decide) ?_
                  exact ih7 r_62 r_88 x_97 _ _ L_86 h_95 (by omega) (by omega) (by omega) (by omega) (by omega) (by omega)  ls (by omega) hW hT hM   (lv_sub hl [0, 1, 2, 3, 4] rfl)
                · skip
                  refine lv_iconst (v := 1) hx hb dX6_readEither_84 (by decide) ?_
                  exact hx_retz hx hb hr rfl hlk hW ⟨(by decide), hT, hM⟩ dX6_readEither_85
            · skip
              refine lv_aload_n hx hb dX6_readEither_47 rfl (lv_at hl 3 rfl) ?_
              refine lv_dup hx hb dX6_readEither_48 rfl ?_
              refine hk_geti hx hb hts hC_6 hown hW (gx.S hM) tt_6 2 (by decide) rfl kw_127 ⟨rfl, rfl, rfl⟩ fw_65 dX6_readEither_49 ?_
              refine lv_iconst (v := 3) hx hb dX6_readEither_52 (by decide) ?_
              refine lv_iadd hx hb dX6_readEither_53 ?_
              have rg_99 := i32_r w_65
              refine lv_topi (fun x_100 ex_100 => ?_)
              have zx_100 : x_100.toInt = w_65.toInt + 3 := by rw [ex_100]; exact i32_add rfl (by decide) (by omega) (by omega)
              refine hx_puti hx hb hts hC_6 hown hW hT (hx_S.rf (M := [(6, 2)])) (gx.S hM) tt_6 2 (by decide) rfl kw_127 ⟨rfl, rfl, rfl⟩ rfl (x := x_100) ⟨by omega, by omega⟩ rfl rfl rfl (List.mem_singleton.mpr rfl) dX6_readEither_54 (fun H locs h_101 eh_101 hW hT hs => ?_)
              replace fx_1 := (hs.o (gx.S hM) trivial rfl).1.trans fx_1
              replace hM := hM.tr (hs.mono (by decide))
              have f_102 : h_101.2.1 x 2 = x_100 := by rw [eh_101]; exact hx_pi_at _ _ _ _
              refine lv_goto (tgt := 96) hx hb dX6_readEither_57 (by decide) ?_
              obtain ⟨x_103, ex_103⟩ : ∃ y : Int32, y = iv7_4 + Int32.ofInt 1 := ⟨_, rfl⟩
              have rg_104 := i32_r iv7_4
              have zx_103 : x_103.toInt = iv7_4.toInt + (1) := by rw [ex_103]; exact i32_add rfl (by decide) (by omega) (by omega)
              refine lv_iinc (v := x_103) (lv' := [(4, .int x_103), (2, .int r_62), (3, .int iv7_3), (0, .ref x), (1, .int (7 : Int32))]) hx hb dX6_readEither_96 hl (k := 1) rfl ex_103.symm (by decide) rfl (fun ls hl => ?_)
              refine lv_goto (tgt := 7) hx hb dX6_readEither_99 (by decide) ?_
              exact ih7 r_62 iv7_3 x_103 _ _ L_60 h_101 (by omega) (by omega) (by omega) (by omega) (by omega) (by omega)  ls (by omega) hW hT hM   (lv_sub hl [0, 2, 1, 3, 4] rfl)
  have zk_0 : (0 : Int32).toInt = 0 := by decide
  have zk_0 : (0 : Int32).toInt = 0 := by decide
  have zk_0 : (0 : Int32).toInt = 0 := by decide
  exact loop7 402 (0 : Int32) (0 : Int32) (0 : Int32) _ _ L h (by decide) (by decide) (by decide) (by decide) (by decide) (by decide)  ls (by omega) hW hT hM   hl


set_option maxHeartbeats 4000000 in
set_option maxRecDepth 100000 in
theorem t_X6_readOne_6 (l : Launch) (dC : Nat → ClassId) (dI : Nat → Nat → Nat) (dA : Nat → ClassId) (L : List Nat) (h : hx_h) (sz : Nat) (b0 : hx_z) (x : Nat) (hT : hx_T T_tb L h) (gx : hx_g L h x 6) (qt : Nat) (gqt : hx_g L h qt 42) (f_x_0 : h.2.2 x 0 = some qt) (qi : Nat) (gqi : hx_g L h qi 0) (f_x_6 : h.2.2 x 6 = some qi) : Met l yX6_readOne (Cond.code yX6_readOne cX6_readOne 3 (some .boolean) :: hx_all) ({ frames := 11, cells := 0, slots := 0, locals := 250 }) (va_Pc [.ref x, .int (6 : Int32)] (hx_BX T_tb (P_ty dA) (dC, dI) vwCl L h sz b0)) (va_Qi (fun (r : Int32) (u : List Nat × hx_h) => (r.toInt = 0 ∨ r.toInt = 1) ∧ hx_T T_tb u.1 u.2 ∧ hx_S T_tb [(0, 4), (6, 2), (6, 3), (6, 5), (12, 0)] L h u.1 u.2) (hx_E T_tb (P_ty dA) (dC, dI) vwCl (hx_A L sz)) (hx_A L sz)) 0 0 (hx_A L sz) := by
  refine hx_metX (lv := [(0, .ref x), (1, .int (6 : Int32))]) (by decide +kernel) rfl (Nat.le_of_ble_eq_true rfl) rfl ?_
  intro p e s m below meth c hx hb hml hr hlk hts0 hown hin hsz hW hZ ls hl
  have hts : ∀ w ∈ hx_all, w.before _ s = true := fun w hw => hts0 w (List.mem_cons_of_mem _ hw)
  have hown : s.vm.findClass "SmallCourt$Reader" = some m.cls := hown
  have hM : hx_S T_tb [(0, 4), (6, 2), (6, 3), (6, 5), (12, 0)] L h L h := hx_S.rf
  obtain ⟨zLT, zLA, zMT, zMA, zCS, zSF, zVS, zVR⟩ := hZ.2.2.2.2.2.2
  refine lv_aload_n hx hb dX6_readOne_0 rfl (lv_at hl 0 rfl) ?_
  refine va_ldcS (tx := P_st.getD 4 "") hx hb hown (zVR 4 (by decide)) dX6_readOne_1 ?_
  refine hx_goi (hx_runVX (As := [.ref (b0.2.2.2.1 4)]) (rest := []) ⟨hx, hb, hml, hown, hts⟩ hW (gx.S hM) tt_6 (T := TX6) (N := 7) rfl (t_X6_isNextWord l dC dI dA L h s.heap.size b0 x 4 hT (gx.S hM) (by decide) qt (gqt.S hM) ((hM.o gx trivial rfl).2.trans f_x_0)) hZ (cwV 1 hts (hx_gV kw_565 kw_562 kw_564 kw_14 kw_95) rfl rfl rfl (by decide +kernel) ⟨Nat.le_of_ble_eq_true rfl, Nat.le_of_ble_eq_true rfl⟩) rfl hl.1 rfl (Nat.le_of_ble_eq_true rfl) dX6_readOne_3 ⟨Nat.le_of_ble_eq_true rfl, Nat.le_of_ble_eq_true rfl⟩) hW (fun r_3 L_1 h_2 H locs p_4 hW => ?_)
  obtain ⟨⟨w_6, fw_6, hr_5⟩, hT, hs⟩ := p_4
  replace hT : hx_T T_tb L_1 h_2 := hT
  replace hs : hx_S T_tb [(6, 2)] L h L_1 h_2 := hs
  replace hM := hM.tr (hs.mono (by decide))
  have fw_6 : h_2.2.1 x 2 = w_6 := fw_6
  have bw_6 := hT.gi (gx.S hM) tt_6 (k := 2) rfl
  rw [fw_6] at bw_6
  have bw_6 : 0 ≤ w_6.toInt ∧ w_6.toInt ≤ 402 := bw_6
  refine lv_istore_n (lv' := [(2, .int r_3), (0, .ref x), (1, .int (6 : Int32))]) hx hb dX6_readOne_6 rfl hl (by decide) rfl (fun ls hl => ?_)
  refine lv_iload_n hx hb dX6_readOne_7 rfl (lv_at hl 0 rfl) ?_
  refine hb_if_ne (zx := r_3.toInt) (tgt := 25) hx hb rfl dX6_readOne_8 (by decide) (fun c_7 => ?_) (fun c_7 => ?_)
  · skip
    refine lv_iload_n hx hb dX6_readOne_25 rfl (lv_at hl 2 rfl) ?_
    refine lv_bipush (v := 8) hx hb dX6_readOne_26 (by decide) ?_
    refine hb_icmp_lt (zx := 6) (zy := 8) (tgt := 41) hx hb (by decide) (by decide) dX6_readOne_28 (by decide) (fun c_8 => ?_) (fun c_8 => absurd c_8 (by decide))
    refine lv_iload_n hx hb dX6_readOne_41 rfl (lv_at hl 0 rfl) ?_
    refine hb_if_eq (zx := r_3.toInt) (tgt := 78) hx hb rfl dX6_readOne_42 (by decide) (fun c_9 => by exfalso; omega) (fun c_9 => ?_)
    refine lv_aload_n hx hb dX6_readOne_45 rfl (lv_at hl 1 rfl) ?_
    refine lv_dup hx hb dX6_readOne_46 rfl ?_
    refine hk_geti hx hb hts hC_6 hown hW (gx.S hM) tt_6 2 (by decide) rfl kw_127 ⟨rfl, rfl, rfl⟩ fw_6 dX6_readOne_47 ?_
    refine lv_iconst (v := 3) hx hb dX6_readOne_50 (by decide) ?_
    refine lv_iadd hx hb dX6_readOne_51 ?_
    have rg_10 := i32_r w_6
    refine lv_topi (fun x_11 ex_11 => ?_)
    have zx_11 : x_11.toInt = w_6.toInt + 3 := by rw [ex_11]; exact i32_add rfl (by decide) (by omega) (by omega)
    refine hx_puti hx hb hts hC_6 hown hW hT (hx_S.rf (M := [(6, 2)])) (gx.S hM) tt_6 2 (by decide) rfl kw_127 ⟨rfl, rfl, rfl⟩ rfl (x := x_11) ⟨by omega, by omega⟩ rfl rfl rfl (List.mem_singleton.mpr rfl) dX6_readOne_52 (fun H locs h_12 eh_12 hW hT hs => ?_)
    replace hM := hM.tr (hs.mono (by decide))
    have f_13 : h_12.2.1 x 2 = x_11 := by rw [eh_12]; exact hx_pi_at _ _ _ _
    refine lv_aload_n hx hb dX6_readOne_55 rfl (lv_at hl 1 rfl) ?_
    refine lv_iload_n hx hb dX6_readOne_56 rfl (lv_at hl 2 rfl) ?_
    refine lv_iconst (v := 1) hx hb dX6_readOne_57 (by decide) ?_
    refine lv_iadd hx hb dX6_readOne_58 ?_
    refine lv_topi (fun x_14 ex_14 => ?_)
    obtain rfl : x_14 = (7 : Int32) := ex_14.trans (by decide)
    have zc_7 : (7 : Int32).toInt = 7 := by decide
    refine hx_goi (hx_runVX (As := [.int (7 : Int32)]) (rest := []) ⟨hx, hb, hml, hown, hts⟩ hW (gx.S hM) tt_6 (T := TX6) (N := 7) rfl (t_X6_readOne_7 l dC dI dA L_1 h_12 H.size b0 x hT (gx.S hM) qt (gqt.S hM) ((hM.o gx trivial rfl).2.trans f_x_0) qi (gqi.S hM) ((hM.o gx trivial rfl).2.trans f_x_6)) hZ (cwV 1 hts (hx_gV kw_560 kw_557 kw_559 kw_13 kw_95) rfl rfl rfl (by decide +kernel) ⟨Nat.le_of_ble_eq_true rfl, Nat.le_of_ble_eq_true rfl⟩) rfl hl.1 rfl (Nat.le_of_ble_eq_true rfl) dX6_readOne_59 ⟨Nat.le_of_ble_eq_true rfl, Nat.le_of_ble_eq_true rfl⟩) hW (fun r_17 L_15 h_16 H locs p_18 hW => ?_)
    obtain ⟨hr_19, hT, hs⟩ := p_18
    replace hT : hx_T T_tb L_15 h_16 := hT
    replace hs : hx_S T_tb [(0, 4), (6, 2), (6, 3), (6, 5), (12, 0)] L_1 h_12 L_15 h_16 := hs
    replace hM := hM.tr (hs.mono (by decide))
    refine hb_if_ne (zx := r_17.toInt) (tgt := 67) hx hb rfl dX6_readOne_62 (by decide) (fun c_20 => ?_) (fun c_20 => ?_)
    · skip
      refine lv_aload_n hx hb dX6_readOne_67 rfl (lv_at hl 1 rfl) ?_
      refine hk_getr hx hb hts hC_6 hown hW (gx.S hM) tt_6 6 (by decide) rfl kw_131 ⟨rfl, rfl, rfl⟩ ((hM.o gx trivial rfl).2.trans f_x_6) dX6_readOne_68 ?_
      refine lv_bipush (v := -3) hx hb dX6_readOne_71 (by decide) ?_
      have zc_m3 : (-3 : Int32).toInt = -3 := by decide
      refine hx_gov (hx_runV (As := [.int (-3 : Int32)]) (rest := []) ⟨hx, hb, hml, hown, hts⟩ hW (gqi.S hM) tt_0 (T := TX0) (N := 5) rfl (t_X0_addProof l dC dI dA L_15 h_16 H.size qi (-3 : Int32) hT (gqi.S hM)) (cwV 1 hts (hx_gV kw_583 kw_580 kw_581 kw_582 kw_96) rfl rfl rfl (by decide +kernel) ⟨Nat.le_of_ble_eq_true rfl, Nat.le_of_ble_eq_true rfl⟩) rfl hl.1 rfl (Nat.le_of_ble_eq_true rfl) dX6_readOne_73 ⟨Nat.le_of_ble_eq_true rfl, Nat.le_of_ble_eq_true rfl⟩) hW (fun L_21 h_22 H locs p_24 hW => ?_)
      obtain ⟨hT, hs⟩ := p_24
      replace hT : hx_T T_tb L_21 h_22 := hT
      replace hs : hx_S T_tb [(0, 4), (12, 0)] L_15 h_16 L_21 h_22 := hs
      replace hM := hM.tr (hs.mono (by decide))
      refine lv_iconst (v := 1) hx hb dX6_readOne_76 (by decide) ?_
      exact hx_retz hx hb hr rfl hlk hW ⟨(by decide), hT, hM⟩ dX6_readOne_77
    · skip
      refine lv_iconst (v := 0) hx hb dX6_readOne_65 (by decide) ?_
      exact hx_retz hx hb hr rfl hlk hW ⟨(by decide), hT, hM⟩ dX6_readOne_66
  · skip
    refine lv_aload_n hx hb dX6_readOne_11 rfl (lv_at hl 1 rfl) ?_
    refine lv_bipush (v := 40) hx hb dX6_readOne_12 (by decide) ?_
    have zc_40 : (40 : Int32).toInt = 40 := by decide
    refine hx_goi (hx_runV (As := [.int (40 : Int32)]) (rest := []) ⟨hx, hb, hml, hown, hts⟩ hW (gx.S hM) tt_6 (T := TX6) (N := 7) rfl (t_X6_isByte l dC dI dA L_1 h_2 H.size x (40 : Int32) hT (gx.S hM) w_6 fw_6 qt (gqt.S hM) ((hM.o gx trivial rfl).2.trans f_x_0)) (cwV 1 hts (hx_gV kw_569 kw_566 kw_568 kw_15 kw_95) rfl rfl rfl (by decide +kernel) ⟨Nat.le_of_ble_eq_true rfl, Nat.le_of_ble_eq_true rfl⟩) rfl hl.1 rfl (Nat.le_of_ble_eq_true rfl) dX6_readOne_14 ⟨Nat.le_of_ble_eq_true rfl, Nat.le_of_ble_eq_true rfl⟩) hW (fun r_28 L_26 h_27 H locs p_29 hW => ?_)
    obtain ⟨hr_30, hT, hs⟩ := p_29
    replace hT : hx_T T_tb L_26 h_27 := hT
    replace hs : hx_S T_tb [] L_1 h_2 L_26 h_27 := hs
    replace fw_6 := (hs.o (gx.S hM) trivial rfl).1.trans fw_6
    replace hM := hM.tr (hs.mono (by decide))
    refine hb_if_ne (zx := r_28.toInt) (tgt := 25) hx hb rfl dX6_readOne_17 (by decide) (fun c_31 => ?_) (fun c_31 => ?_)
    · skip
      refine lv_iload_n hx hb dX6_readOne_25 rfl (lv_at hl 2 rfl) ?_
      refine lv_bipush (v := 8) hx hb dX6_readOne_26 (by decide) ?_
      refine hb_icmp_lt (zx := 6) (zy := 8) (tgt := 41) hx hb (by decide) (by decide) dX6_readOne_28 (by decide) (fun c_32 => ?_) (fun c_32 => absurd c_32 (by decide))
      refine lv_iload_n hx hb dX6_readOne_41 rfl (lv_at hl 0 rfl) ?_
      refine hb_if_eq (zx := r_3.toInt) (tgt := 78) hx hb rfl dX6_readOne_42 (by decide) (fun c_33 => ?_) (fun c_33 => by exfalso; omega)
      refine lv_aload_n hx hb dX6_readOne_78 rfl (lv_at hl 1 rfl) ?_
      refine lv_dup hx hb dX6_readOne_79 rfl ?_
      refine hk_geti hx hb hts hC_6 hown hW (gx.S hM) tt_6 2 (by decide) rfl kw_127 ⟨rfl, rfl, rfl⟩ fw_6 dX6_readOne_80 ?_
      refine lv_iconst (v := 1) hx hb dX6_readOne_83 (by decide) ?_
      refine lv_iadd hx hb dX6_readOne_84 ?_
      have rg_34 := i32_r w_6
      refine lv_topi (fun x_35 ex_35 => ?_)
      have zx_35 : x_35.toInt = w_6.toInt + 1 := by rw [ex_35]; exact i32_add rfl (by decide) (by omega) (by omega)
      refine hx_puti hx hb hts hC_6 hown hW hT (hx_S.rf (M := [(6, 2)])) (gx.S hM) tt_6 2 (by decide) rfl kw_127 ⟨rfl, rfl, rfl⟩ rfl (x := x_35) ⟨by omega, by omega⟩ rfl rfl rfl (List.mem_singleton.mpr rfl) dX6_readOne_85 (fun H locs h_36 eh_36 hW hT hs => ?_)
      replace hM := hM.tr (hs.mono (by decide))
      have f_37 : h_36.2.1 x 2 = x_35 := by rw [eh_36]; exact hx_pi_at _ _ _ _
      refine lv_aload_n hx hb dX6_readOne_88 rfl (lv_at hl 1 rfl) ?_
      refine lv_iload_n hx hb dX6_readOne_89 rfl (lv_at hl 2 rfl) ?_
      refine lv_iconst (v := 1) hx hb dX6_readOne_90 (by decide) ?_
      refine lv_iadd hx hb dX6_readOne_91 ?_
      refine lv_topi (fun x_38 ex_38 => ?_)
      obtain rfl : x_38 = (7 : Int32) := ex_38.trans (by decide)
      have zc_7 : (7 : Int32).toInt = 7 := by decide
      refine hx_goi (hx_runVX (As := [.int (7 : Int32)]) (rest := []) ⟨hx, hb, hml, hown, hts⟩ hW (gx.S hM) tt_6 (T := TX6) (N := 7) rfl (t_X6_readEither_7 l dC dI dA L_26 h_36 H.size b0 x hT (gx.S hM) qt (gqt.S hM) ((hM.o gx trivial rfl).2.trans f_x_0) qi (gqi.S hM) ((hM.o gx trivial rfl).2.trans f_x_6)) hZ (cwV 1 hts (hx_gV kw_556 kw_553 kw_555 kw_12 kw_95) rfl rfl rfl (by decide +kernel) ⟨Nat.le_of_ble_eq_true rfl, Nat.le_of_ble_eq_true rfl⟩) rfl hl.1 rfl (Nat.le_of_ble_eq_true rfl) dX6_readOne_92 ⟨Nat.le_of_ble_eq_true rfl, Nat.le_of_ble_eq_true rfl⟩) hW (fun r_41 L_39 h_40 H locs p_42 hW => ?_)
      obtain ⟨hr_43, hT, hs⟩ := p_42
      replace hT : hx_T T_tb L_39 h_40 := hT
      replace hs : hx_S T_tb [(0, 4), (6, 2), (6, 3), (6, 5), (12, 0)] L_26 h_36 L_39 h_40 := hs
      replace hM := hM.tr (hs.mono (by decide))
      refine hb_if_ne (zx := r_41.toInt) (tgt := 100) hx hb rfl dX6_readOne_95 (by decide) (fun c_44 => ?_) (fun c_44 => ?_)
      · skip
        refine lv_aload_n hx hb dX6_readOne_100 rfl (lv_at hl 1 rfl) ?_
        refine hx_gov (hx_runV (As := []) (rest := []) ⟨hx, hb, hml, hown, hts⟩ hW (gx.S hM) tt_6 (T := TX6) (N := 7) rfl (t_X6_skipBlanks l dC dI dA L_39 h_40 H.size x hT (gx.S hM) qt (gqt.S hM) ((hM.o gx trivial rfl).2.trans f_x_0)) (cwV 0 hts (hx_gV kw_458 kw_455 kw_457 kw_1 kw_95) rfl rfl rfl (by decide +kernel) ⟨Nat.le_of_ble_eq_true rfl, Nat.le_of_ble_eq_true rfl⟩) rfl hl.1 rfl (Nat.le_of_ble_eq_true rfl) dX6_readOne_101 ⟨Nat.le_of_ble_eq_true rfl, Nat.le_of_ble_eq_true rfl⟩) hW (fun L_45 h_46 H locs p_48 hW => ?_)
        obtain ⟨hT, hs⟩ := p_48
        replace hT : hx_T T_tb L_45 h_46 := hT
        replace hs : hx_S T_tb [(6, 2)] L_39 h_40 L_45 h_46 := hs
        replace hM := hM.tr (hs.mono (by decide))
        refine lv_aload_n hx hb dX6_readOne_104 rfl (lv_at hl 1 rfl) ?_
        refine lv_bipush (v := 41) hx hb dX6_readOne_105 (by decide) ?_
        have zc_41 : (41 : Int32).toInt = 41 := by decide
        obtain ⟨fv_50, efv_50⟩ : ∃ y : Int32, y = h_46.2.1 x 2 := ⟨_, rfl⟩
        have bfv_50 := hT.gi (gx.S hM) tt_6 (k := 2) rfl
        rw [← efv_50] at bfv_50
        have bfv_50 : 0 ≤ fv_50.toInt ∧ fv_50.toInt ≤ 402 := bfv_50
        have ffv_50 := efv_50.symm
        refine hx_goi (hx_runV (As := [.int (41 : Int32)]) (rest := []) ⟨hx, hb, hml, hown, hts⟩ hW (gx.S hM) tt_6 (T := TX6) (N := 7) rfl (t_X6_isByte l dC dI dA L_45 h_46 H.size x (41 : Int32) hT (gx.S hM) fv_50 ffv_50 qt (gqt.S hM) ((hM.o gx trivial rfl).2.trans f_x_0)) (cwV 1 hts (hx_gV kw_569 kw_566 kw_568 kw_15 kw_95) rfl rfl rfl (by decide +kernel) ⟨Nat.le_of_ble_eq_true rfl, Nat.le_of_ble_eq_true rfl⟩) rfl hl.1 rfl (Nat.le_of_ble_eq_true rfl) dX6_readOne_107 ⟨Nat.le_of_ble_eq_true rfl, Nat.le_of_ble_eq_true rfl⟩) hW (fun r_53 L_51 h_52 H locs p_54 hW => ?_)
        obtain ⟨hr_55, hT, hs⟩ := p_54
        replace hT : hx_T T_tb L_51 h_52 := hT
        replace hs : hx_S T_tb [] L_45 h_46 L_51 h_52 := hs
        replace ffv_50 := (hs.o (gx.S hM) trivial rfl).1.trans ffv_50
        replace hM := hM.tr (hs.mono (by decide))
        refine hb_if_ne (zx := r_53.toInt) (tgt := 123) hx hb rfl dX6_readOne_110 (by decide) (fun c_56 => ?_) (fun c_56 => ?_)
        · skip
          refine lv_aload_n hx hb dX6_readOne_123 rfl (lv_at hl 1 rfl) ?_
          refine lv_dup hx hb dX6_readOne_124 rfl ?_
          refine hk_geti hx hb hts hC_6 hown hW (gx.S hM) tt_6 2 (by decide) rfl kw_127 ⟨rfl, rfl, rfl⟩ ffv_50 dX6_readOne_125 ?_
          refine lv_iconst (v := 1) hx hb dX6_readOne_128 (by decide) ?_
          refine lv_iadd hx hb dX6_readOne_129 ?_
          have rg_57 := i32_r fv_50
          refine lv_topi (fun x_58 ex_58 => ?_)
          have zx_58 : x_58.toInt = fv_50.toInt + 1 := by rw [ex_58]; exact i32_add rfl (by decide) (by omega) (by omega)
          refine hx_puti hx hb hts hC_6 hown hW hT (hx_S.rf (M := [(6, 2)])) (gx.S hM) tt_6 2 (by decide) rfl kw_127 ⟨rfl, rfl, rfl⟩ rfl (x := x_58) ⟨by omega, by omega⟩ rfl rfl rfl (List.mem_singleton.mpr rfl) dX6_readOne_130 (fun H locs h_59 eh_59 hW hT hs => ?_)
          replace hM := hM.tr (hs.mono (by decide))
          have f_60 : h_59.2.1 x 2 = x_58 := by rw [eh_59]; exact hx_pi_at _ _ _ _
          refine lv_iconst (v := 1) hx hb dX6_readOne_133 (by decide) ?_
          exact hx_retz hx hb hr rfl hlk hW ⟨(by decide), hT, hM⟩ dX6_readOne_134
        · skip
          refine lv_aload_n hx hb dX6_readOne_113 rfl (lv_at hl 1 rfl) ?_
          refine lv_aload_n hx hb dX6_readOne_114 rfl (lv_at hl 1 rfl) ?_
          refine hk_geti hx hb hts hC_6 hown hW (gx.S hM) tt_6 2 (by decide) rfl kw_127 ⟨rfl, rfl, rfl⟩ ffv_50 dX6_readOne_115 ?_
          refine lv_iconst (v := 0) hx hb dX6_readOne_118 (by decide) ?_
          have zc_0 : (0 : Int32).toInt = 0 := by decide
          refine hx_goi (hx_runV (As := [.int fv_50, .int (0 : Int32)]) (rest := []) ⟨hx, hb, hml, hown, hts⟩ hW (gx.S hM) tt_6 (T := TX6) (N := 7) rfl (t_X6_refuse l dC dI dA L_51 h_52 H.size x fv_50 (0 : Int32) hT (gx.S hM)) (cwV 2 hts (hx_gV kw_527 kw_524 kw_526 kw_6 kw_95) rfl rfl rfl (by decide +kernel) ⟨Nat.le_of_ble_eq_true rfl, Nat.le_of_ble_eq_true rfl⟩) rfl hl.1 rfl (Nat.le_of_ble_eq_true rfl) dX6_readOne_119 ⟨Nat.le_of_ble_eq_true rfl, Nat.le_of_ble_eq_true rfl⟩) hW (fun r_63 L_61 h_62 H locs p_64 hW => ?_)
          obtain ⟨hr_65, hT, hs⟩ := p_64
          replace hT : hx_T T_tb L_61 h_62 := hT
          replace hs : hx_S T_tb [(6, 3)] L_51 h_52 L_61 h_62 := hs
          replace ffv_50 := (hs.o (gx.S hM) trivial rfl).1.trans ffv_50
          replace hM := hM.tr (hs.mono (by decide))
          exact hx_retz hx hb hr (hx_nar01 (by omega)) hlk hW ⟨(by omega), hT, hM⟩ dX6_readOne_122
      · skip
        refine lv_iconst (v := 0) hx hb dX6_readOne_98 (by decide) ?_
        exact hx_retz hx hb hr rfl hlk hW ⟨(by decide), hT, hM⟩ dX6_readOne_99
    · skip
      refine lv_aload_n hx hb dX6_readOne_20 rfl (lv_at hl 1 rfl) ?_
      refine hx_goi (hx_runVX (As := []) (rest := []) ⟨hx, hb, hml, hown, hts⟩ hW (gx.S hM) tt_6 (T := TX6) (N := 7) rfl (t_X6_readTerm l dC dI dA L_26 h_27 H.size b0 x hT (gx.S hM) qt (gqt.S hM) ((hM.o gx trivial rfl).2.trans f_x_0) qi (gqi.S hM) ((hM.o gx trivial rfl).2.trans f_x_6)) hZ (cwV 0 hts (hx_gV kw_573 kw_570 kw_572 kw_16 kw_95) rfl rfl rfl (by decide +kernel) ⟨Nat.le_of_ble_eq_true rfl, Nat.le_of_ble_eq_true rfl⟩) rfl hl.1 rfl (Nat.le_of_ble_eq_true rfl) dX6_readOne_21 ⟨Nat.le_of_ble_eq_true rfl, Nat.le_of_ble_eq_true rfl⟩) hW (fun r_68 L_66 h_67 H locs p_69 hW => ?_)
      obtain ⟨hr_70, hT, hs⟩ := p_69
      replace hT : hx_T T_tb L_66 h_67 := hT
      replace hs : hx_S T_tb [(0, 4), (6, 2), (6, 3), (6, 5), (12, 0)] L_26 h_27 L_66 h_67 := hs
      replace hM := hM.tr (hs.mono (by decide))
      exact hx_retz hx hb hr (hx_nar01 (by omega)) hlk hW ⟨(by omega), hT, hM⟩ dX6_readOne_24


set_option maxHeartbeats 4000000 in
set_option maxRecDepth 100000 in
theorem t_X6_readEither_6 (l : Launch) (dC : Nat → ClassId) (dI : Nat → Nat → Nat) (dA : Nat → ClassId) (L : List Nat) (h : hx_h) (sz : Nat) (b0 : hx_z) (x : Nat) (hT : hx_T T_tb L h) (gx : hx_g L h x 6) (qt : Nat) (gqt : hx_g L h qt 42) (f_x_0 : h.2.2 x 0 = some qt) (qi : Nat) (gqi : hx_g L h qi 0) (f_x_6 : h.2.2 x 6 = some qi) : Met l yX6_readEither (Cond.code yX6_readEither cX6_readEither 5 (some .boolean) :: hx_all) ({ frames := 12, cells := 0, slots := 0, locals := 272 }) (va_Pc [.ref x, .int (6 : Int32)] (hx_BX T_tb (P_ty dA) (dC, dI) vwCl L h sz b0)) (va_Qi (fun (r : Int32) (u : List Nat × hx_h) => (r.toInt = 0 ∨ r.toInt = 1) ∧ hx_T T_tb u.1 u.2 ∧ hx_S T_tb [(0, 4), (6, 2), (6, 3), (6, 5), (12, 0)] L h u.1 u.2) (hx_E T_tb (P_ty dA) (dC, dI) vwCl (hx_A L sz)) (hx_A L sz)) 0 0 (hx_A L sz) := by
  refine hx_metX (lv := [(0, .ref x), (1, .int (6 : Int32))]) (by decide +kernel) rfl (Nat.le_of_ble_eq_true rfl) rfl ?_
  intro p e s m below meth c hx hb hml hr hlk hts0 hown hin hsz hW hZ ls hl
  have hts : ∀ w ∈ hx_all, w.before _ s = true := fun w hw => hts0 w (List.mem_cons_of_mem _ hw)
  have hown : s.vm.findClass "SmallCourt$Reader" = some m.cls := hown
  have hM : hx_S T_tb [(0, 4), (6, 2), (6, 3), (6, 5), (12, 0)] L h L h := hx_S.rf
  obtain ⟨zLT, zLA, zMT, zMA, zCS, zSF, zVS, zVR⟩ := hZ.2.2.2.2.2.2
  refine lv_iconst (v := 0) hx hb dX6_readEither_0 (by decide) ?_
  refine lv_istore_n (lv' := [(2, .int (0 : Int32)), (0, .ref x), (1, .int (6 : Int32))]) hx hb dX6_readEither_1 rfl hl (by decide) rfl (fun ls hl => ?_)
  refine lv_iconst (v := 0) hx hb dX6_readEither_2 (by decide) ?_
  refine lv_istore_n (lv' := [(3, .int (0 : Int32)), (2, .int (0 : Int32)), (0, .ref x), (1, .int (6 : Int32))]) hx hb dX6_readEither_3 rfl hl (by decide) rfl (fun ls hl => ?_)
  refine lv_iconst (v := 0) hx hb dX6_readEither_4 (by decide) ?_
  refine lv_istore (lv' := [(4, .int (0 : Int32)), (3, .int (0 : Int32)), (2, .int (0 : Int32)), (0, .ref x), (1, .int (6 : Int32))]) hx hb dX6_readEither_5 hl (by decide) rfl (fun ls hl => ?_)
  have loop7 : ∀ (n7 : Nat) (iv7_2 iv7_3 iv7_4 : Int32) (H : Heap) (locs : List Loc) (hL1 : List Nat) (hl1 : hx_h), 0 ≤ iv7_2.toInt → iv7_2.toInt ≤ 1 → 0 ≤ iv7_3.toInt → iv7_3.toInt ≤ 1 → 0 ≤ iv7_4.toInt → iv7_4.toInt ≤ 401 → ∀ (ls : Array Slot), 401 - iv7_4.toInt < (n7 : Int) → hx_W T_tb (P_ty dA) (dC, dI) vwCl (hx_A L sz) s.heap hL1 hl1 s H locs → hx_T T_tb hL1 hl1 → hx_S T_tb [(0, 4), (6, 2), (6, 3), (6, 5), (12, 0)] L h hL1 hl1 → lv_has ls 5 [(4, .int iv7_4), (3, .int iv7_3), (2, .int iv7_2), (0, .ref x), (1, .int (6 : Int32))] → W p l e ({ frames := 12, cells := 0, slots := 0, locals := 272 }) s m ([.ref x, .int (6 : Int32)] : List Value).toArray below meth c H locs 0 0 (MQ below (va_Qi (fun (r : Int32) (u : List Nat × hx_h) => (r.toInt = 0 ∨ r.toInt = 1) ∧ hx_T T_tb u.1 u.2 ∧ hx_S T_tb [(0, 4), (6, 2), (6, 3), (6, 5), (12, 0)] L h u.1 u.2) (hx_E T_tb (P_ty dA) (dC, dI) vwCl (hx_A L sz)) (hx_A L sz)) ([.ref x, .int (6 : Int32)] : List Value).toArray s 0 0 (hx_A L sz)) (F0 m 7 ls []) := by
    intro n7
    induction n7 with
    | zero => intro iv7_2 iv7_3 iv7_4 H locs hL1 hl1 bliv7_2 buiv7_2 bliv7_3 buiv7_3 bliv7_4 buiv7_4  ls hn7; exfalso; omega
    | succ n7 ih7 =>
      intro iv7_2 iv7_3 iv7_4 H locs hL1 hl1 bliv7_2 buiv7_2 bliv7_3 buiv7_3 bliv7_4 buiv7_4  ls hn7 hW hT hM   hl
      refine lv_iload hx hb dX6_readEither_7 (lv_at hl 0 rfl) ?_
      refine lv_aload_n hx hb dX6_readEither_9 rfl (lv_at hl 3 rfl) ?_
      refine hx_geti hx hb hts hC_6 hown hW hT (gx.S hM) tt_6 1 (by decide) rfl kw_126 ⟨rfl, rfl, rfl⟩ dX6_readEither_10 (fun x_1 ex_1 lx_1 ux_1 => ?_)
      have fx_1 := ex_1.symm
      refine hb_icmp_gt (zx := iv7_4.toInt) (zy := x_1.toInt) (tgt := 102) hx hb rfl rfl dX6_readEither_13 (by decide) (fun c_2 => ?_) (fun c_2 => ?_)
      · skip
        refine lv_iconst (v := 0) hx hb dX6_readEither_102 (by decide) ?_
        exact hx_retz hx hb hr rfl hlk hW ⟨(by decide), hT, hM⟩ dX6_readEither_103
      · skip
        refine lv_aload_n hx hb dX6_readEither_16 rfl (lv_at hl 3 rfl) ?_
        refine lv_iload_n hx hb dX6_readEither_17 rfl (lv_at hl 4 rfl) ?_
        have zc_6 : (6 : Int32).toInt = 6 := by decide
        refine hx_goi (hx_runVX (As := [.int (6 : Int32)]) (rest := []) ⟨hx, hb, hml, hown, hts⟩ hW (gx.S hM) tt_6 (T := TX6) (N := 7) rfl (t_X6_readOne_6 l dC dI dA hL1 hl1 H.size b0 x hT (gx.S hM) qt (gqt.S hM) ((hM.o gx trivial rfl).2.trans f_x_0) qi (gqi.S hM) ((hM.o gx trivial rfl).2.trans f_x_6)) hZ (cwV 1 hts (hx_gV kw_560 kw_557 kw_559 kw_13 kw_95) rfl rfl rfl (by decide +kernel) ⟨Nat.le_of_ble_eq_true rfl, Nat.le_of_ble_eq_true rfl⟩) rfl hl.1 rfl (Nat.le_of_ble_eq_true rfl) dX6_readEither_18 ⟨Nat.le_of_ble_eq_true rfl, Nat.le_of_ble_eq_true rfl⟩) hW (fun r_5 L_3 h_4 H locs p_6 hW => ?_)
        obtain ⟨hr_7, hT, hs⟩ := p_6
        replace hT : hx_T T_tb L_3 h_4 := hT
        replace hs : hx_S T_tb [(0, 4), (6, 2), (6, 3), (6, 5), (12, 0)] hL1 hl1 L_3 h_4 := hs
        replace fx_1 := (hs.o (gx.S hM) trivial rfl).1.trans fx_1
        replace hM := hM.tr (hs.mono (by decide))
        refine hb_if_eq (zx := r_5.toInt) (tgt := 102) hx hb rfl dX6_readEither_21 (by decide) (fun c_8 => ?_) (fun c_8 => ?_)
        · skip
          refine lv_iconst (v := 0) hx hb dX6_readEither_102 (by decide) ?_
          exact hx_retz hx hb hr rfl hlk hW ⟨(by decide), hT, hM⟩ dX6_readEither_103
        · skip
          refine lv_iload_n hx hb dX6_readEither_24 rfl (lv_at hl 2 rfl) ?_
          refine hb_if_eq (zx := iv7_2.toInt) (tgt := 36) hx hb rfl dX6_readEither_25 (by decide) (fun c_9 => ?_) (fun c_9 => ?_)
          · skip
            refine lv_aload_n hx hb dX6_readEither_36 rfl (lv_at hl 3 rfl) ?_
            refine va_ldcS (tx := P_st.getD 2 "") hx hb hown (zVR 2 (by decide)) dX6_readEither_37 ?_
            refine hx_goi (hx_runVX (As := [.ref (b0.2.2.2.1 2)]) (rest := []) ⟨hx, hb, hml, hown, hts⟩ hW (gx.S hM) tt_6 (T := TX6) (N := 7) rfl (t_X6_isNextWord l dC dI dA L_3 h_4 H.size b0 x 2 hT (gx.S hM) (by decide) qt (gqt.S hM) ((hM.o gx trivial rfl).2.trans f_x_0)) hZ (cwV 1 hts (hx_gV kw_565 kw_562 kw_564 kw_14 kw_95) rfl rfl rfl (by decide +kernel) ⟨Nat.le_of_ble_eq_true rfl, Nat.le_of_ble_eq_true rfl⟩) rfl hl.1 rfl (Nat.le_of_ble_eq_true rfl) dX6_readEither_39 ⟨Nat.le_of_ble_eq_true rfl, Nat.le_of_ble_eq_true rfl⟩) hW (fun r_12 L_10 h_11 H locs p_13 hW => ?_)
            obtain ⟨⟨w_15, fw_15, hr_14⟩, hT, hs⟩ := p_13
            replace hT : hx_T T_tb L_10 h_11 := hT
            replace hs : hx_S T_tb [(6, 2)] L_3 h_4 L_10 h_11 := hs
            replace fx_1 := (hs.o (gx.S hM) trivial rfl).1.trans fx_1
            replace hM := hM.tr (hs.mono (by decide))
            have fw_15 : h_11.2.1 x 2 = w_15 := fw_15
            have bw_15 := hT.gi (gx.S hM) tt_6 (k := 2) rfl
            rw [fw_15] at bw_15
            have bw_15 : 0 ≤ w_15.toInt ∧ w_15.toInt ≤ 402 := bw_15
            refine lv_istore_n (lv' := [(2, .int r_12), (4, .int iv7_4), (3, .int iv7_3), (0, .ref x), (1, .int (6 : Int32))]) hx hb dX6_readEither_42 rfl hl (by decide) rfl (fun ls hl => ?_)
            refine lv_iload_n hx hb dX6_readEither_43 rfl (lv_at hl 0 rfl) ?_
            refine hb_if_eq (zx := r_12.toInt) (tgt := 60) hx hb rfl dX6_readEither_44 (by decide) (fun c_16 => ?_) (fun c_16 => ?_)
            · skip
              refine lv_iload_n hx hb dX6_readEither_60 rfl (lv_at hl 2 rfl) ?_
              refine hb_if_eq (zx := iv7_3.toInt) (tgt := 73) hx hb rfl dX6_readEither_61 (by decide) (fun c_17 => ?_) (fun c_17 => ?_)
              · skip
                refine lv_aload_n hx hb dX6_readEither_73 rfl (lv_at hl 3 rfl) ?_
                refine va_ldcS (tx := P_st.getD 3 "") hx hb hown (zVR 3 (by decide)) dX6_readEither_74 ?_
                refine hx_goi (hx_runVX (As := [.ref (b0.2.2.2.1 3)]) (rest := []) ⟨hx, hb, hml, hown, hts⟩ hW (gx.S hM) tt_6 (T := TX6) (N := 7) rfl (t_X6_isNextWord l dC dI dA L_10 h_11 H.size b0 x 3 hT (gx.S hM) (by decide) qt (gqt.S hM) ((hM.o gx trivial rfl).2.trans f_x_0)) hZ (cwV 1 hts (hx_gV kw_565 kw_562 kw_564 kw_14 kw_95) rfl rfl rfl (by decide +kernel) ⟨Nat.le_of_ble_eq_true rfl, Nat.le_of_ble_eq_true rfl⟩) rfl hl.1 rfl (Nat.le_of_ble_eq_true rfl) dX6_readEither_76 ⟨Nat.le_of_ble_eq_true rfl, Nat.le_of_ble_eq_true rfl⟩) hW (fun r_20 L_18 h_19 H locs p_21 hW => ?_)
                obtain ⟨⟨w_23, fw_23, hr_22⟩, hT, hs⟩ := p_21
                replace hT : hx_T T_tb L_18 h_19 := hT
                replace hs : hx_S T_tb [(6, 2)] L_10 h_11 L_18 h_19 := hs
                replace fx_1 := (hs.o (gx.S hM) trivial rfl).1.trans fx_1
                replace hM := hM.tr (hs.mono (by decide))
                have fw_23 : h_19.2.1 x 2 = w_23 := fw_23
                have bw_23 := hT.gi (gx.S hM) tt_6 (k := 2) rfl
                rw [fw_23] at bw_23
                have bw_23 : 0 ≤ w_23.toInt ∧ w_23.toInt ≤ 402 := bw_23
                refine lv_istore_n (lv' := [(3, .int r_20), (2, .int r_12), (4, .int iv7_4), (0, .ref x), (1, .int (6 : Int32))]) hx hb dX6_readEither_79 rfl hl (by decide) rfl (fun ls hl => ?_)
                refine lv_iload_n hx hb dX6_readEither_80 rfl (lv_at hl 0 rfl) ?_
                refine hb_if_ne (zx := r_20.toInt) (tgt := 86) hx hb rfl dX6_readEither_81 (by decide) (fun c_24 => ?_) (fun c_24 => ?_)
                · skip
                  refine lv_aload_n hx hb dX6_readEither_86 rfl (lv_at hl 3 rfl) ?_
                  refine lv_dup hx hb dX6_readEither_87 rfl ?_
                  refine hk_geti hx hb hts hC_6 hown hW (gx.S hM) tt_6 2 (by decide) rfl kw_127 ⟨rfl, rfl, rfl⟩ fw_23 dX6_readEither_88 ?_
                  refine lv_iconst (v := 2) hx hb dX6_readEither_91 (by decide) ?_
                  refine lv_iadd hx hb dX6_readEither_92 ?_
                  have rg_25 := i32_r w_23
                  refine lv_topi (fun x_26 ex_26 => ?_)
                  have zx_26 : x_26.toInt = w_23.toInt + 2 := by rw [ex_26]; exact i32_add rfl (by decide) (by omega) (by omega)
                  refine hx_puti hx hb hts hC_6 hown hW hT (hx_S.rf (M := [(6, 2)])) (gx.S hM) tt_6 2 (by decide) rfl kw_127 ⟨rfl, rfl, rfl⟩ rfl (x := x_26) ⟨by omega, by omega⟩ rfl rfl rfl (List.mem_singleton.mpr rfl) dX6_readEither_93 (fun H locs h_27 eh_27 hW hT hs => ?_)
                  replace fx_1 := (hs.o (gx.S hM) trivial rfl).1.trans fx_1
                  replace hM := hM.tr (hs.mono (by decide))
                  have f_28 : h_27.2.1 x 2 = x_26 := by rw [eh_27]; exact hx_pi_at _ _ _ _
                  obtain ⟨x_29, ex_29⟩ : ∃ y : Int32, y = iv7_4 + Int32.ofInt 1 := ⟨_, rfl⟩
                  have rg_30 := i32_r iv7_4
                  have zx_29 : x_29.toInt = iv7_4.toInt + (1) := by rw [ex_29]; exact i32_add rfl (by decide) (by omega) (by omega)
                  refine lv_iinc (v := x_29) (lv' := [(4, .int x_29), (3, .int r_20), (2, .int r_12), (0, .ref x), (1, .int (6 : Int32))]) hx hb dX6_readEither_96 hl (k := 2) rfl ex_29.symm (by decide) rfl (fun ls hl => ?_)
                  refine lv_goto (tgt := 7) hx hb dX6_readEither_99 (by decide) ?_
                  exact ih7 r_12 r_20 x_29 _ _ L_18 h_27 (by omega) (by omega) (by omega) (by omega) (by omega) (by omega)  ls (by omega) hW hT hM   (lv_sub hl [0, 1, 2, 3, 4] rfl)
                · skip
                  refine lv_iconst (v := 1) hx hb dX6_readEither_84 (by decide) ?_
                  exact hx_retz hx hb hr rfl hlk hW ⟨(by decide), hT, hM⟩ dX6_readEither_85
              · skip
                refine lv_aload_n hx hb dX6_readEither_64 rfl (lv_at hl 3 rfl) ?_
                refine hk_getr hx hb hts hC_6 hown hW (gx.S hM) tt_6 6 (by decide) rfl kw_131 ⟨rfl, rfl, rfl⟩ ((hM.o gx trivial rfl).2.trans f_x_6) dX6_readEither_65 ?_
                refine lv_bipush (v := -2) hx hb dX6_readEither_68 (by decide) ?_
                have zc_m2 : (-2 : Int32).toInt = -2 := by decide
                refine hx_gov (hx_runV (As := [.int (-2 : Int32)]) (rest := []) ⟨hx, hb, hml, hown, hts⟩ hW (gqi.S hM) tt_0 (T := TX0) (N := 5) rfl (t_X0_addProof l dC dI dA L_10 h_11 H.size qi (-2 : Int32) hT (gqi.S hM)) (cwV 1 hts (hx_gV kw_583 kw_580 kw_581 kw_582 kw_96) rfl rfl rfl (by decide +kernel) ⟨Nat.le_of_ble_eq_true rfl, Nat.le_of_ble_eq_true rfl⟩) rfl hl.1 rfl (Nat.le_of_ble_eq_true rfl) dX6_readEither_70 ⟨Nat.le_of_ble_eq_true rfl, Nat.le_of_ble_eq_true rfl⟩) hW (fun L_31 h_32 H locs p_34 hW => ?_)
                obtain ⟨hT, hs⟩ := p_34
                replace hT : hx_T T_tb L_31 h_32 := hT
                replace hs : hx_S T_tb [(0, 4), (12, 0)] L_10 h_11 L_31 h_32 := hs
                replace fx_1 := (hs.o (gx.S hM) trivial rfl).1.trans fx_1
                replace fw_15 := (hs.o (gx.S hM) trivial rfl).1.trans fw_15
                replace hM := hM.tr (hs.mono (by decide))
                refine lv_aload_n hx hb dX6_readEither_73 rfl (lv_at hl 3 rfl) ?_
                refine va_ldcS (tx := P_st.getD 3 "") hx hb hown (zVR 3 (by decide)) dX6_readEither_74 ?_
                refine hx_goi (hx_runVX (As := [.ref (b0.2.2.2.1 3)]) (rest := []) ⟨hx, hb, hml, hown, hts⟩ hW (gx.S hM) tt_6 (T := TX6) (N := 7) rfl (t_X6_isNextWord l dC dI dA L_31 h_32 H.size b0 x 3 hT (gx.S hM) (by decide) qt (gqt.S hM) ((hM.o gx trivial rfl).2.trans f_x_0)) hZ (cwV 1 hts (hx_gV kw_565 kw_562 kw_564 kw_14 kw_95) rfl rfl rfl (by decide +kernel) ⟨Nat.le_of_ble_eq_true rfl, Nat.le_of_ble_eq_true rfl⟩) rfl hl.1 rfl (Nat.le_of_ble_eq_true rfl) dX6_readEither_76 ⟨Nat.le_of_ble_eq_true rfl, Nat.le_of_ble_eq_true rfl⟩) hW (fun r_38 L_36 h_37 H locs p_39 hW => ?_)
                obtain ⟨⟨w_41, fw_41, hr_40⟩, hT, hs⟩ := p_39
                replace hT : hx_T T_tb L_36 h_37 := hT
                replace hs : hx_S T_tb [(6, 2)] L_31 h_32 L_36 h_37 := hs
                replace fx_1 := (hs.o (gx.S hM) trivial rfl).1.trans fx_1
                replace hM := hM.tr (hs.mono (by decide))
                have fw_41 : h_37.2.1 x 2 = w_41 := fw_41
                have bw_41 := hT.gi (gx.S hM) tt_6 (k := 2) rfl
                rw [fw_41] at bw_41
                have bw_41 : 0 ≤ w_41.toInt ∧ w_41.toInt ≤ 402 := bw_41
                refine lv_istore_n (lv' := [(3, .int r_38), (2, .int r_12), (4, .int iv7_4), (0, .ref x), (1, .int (6 : Int32))]) hx hb dX6_readEither_79 rfl hl (by decide) rfl (fun ls hl => ?_)
                refine lv_iload_n hx hb dX6_readEither_80 rfl (lv_at hl 0 rfl) ?_
                refine hb_if_ne (zx := r_38.toInt) (tgt := 86) hx hb rfl dX6_readEither_81 (by decide) (fun c_42 => ?_) (fun c_42 => ?_)
                · skip
                  refine lv_aload_n hx hb dX6_readEither_86 rfl (lv_at hl 3 rfl) ?_
                  refine lv_dup hx hb dX6_readEither_87 rfl ?_
                  refine hk_geti hx hb hts hC_6 hown hW (gx.S hM) tt_6 2 (by decide) rfl kw_127 ⟨rfl, rfl, rfl⟩ fw_41 dX6_readEither_88 ?_
                  refine lv_iconst (v := 2) hx hb dX6_readEither_91 (by decide) ?_
                  refine lv_iadd hx hb dX6_readEither_92 ?_
                  have rg_43 := i32_r w_41
                  refine lv_topi (fun x_44 ex_44 => ?_)
                  have zx_44 : x_44.toInt = w_41.toInt + 2 := by rw [ex_44]; exact i32_add rfl (by decide) (by omega) (by omega)
                  refine hx_puti hx hb hts hC_6 hown hW hT (hx_S.rf (M := [(6, 2)])) (gx.S hM) tt_6 2 (by decide) rfl kw_127 ⟨rfl, rfl, rfl⟩ rfl (x := x_44) ⟨by omega, by omega⟩ rfl rfl rfl (List.mem_singleton.mpr rfl) dX6_readEither_93 (fun H locs h_45 eh_45 hW hT hs => ?_)
                  replace fx_1 := (hs.o (gx.S hM) trivial rfl).1.trans fx_1
                  replace hM := hM.tr (hs.mono (by decide))
                  have f_46 : h_45.2.1 x 2 = x_44 := by rw [eh_45]; exact hx_pi_at _ _ _ _
                  obtain ⟨x_47, ex_47⟩ : ∃ y : Int32, y = iv7_4 + Int32.ofInt 1 := ⟨_, rfl⟩
                  have rg_48 := i32_r iv7_4
                  have zx_47 : x_47.toInt = iv7_4.toInt + (1) := by rw [ex_47]; exact i32_add rfl (by decide) (by omega) (by omega)
                  refine lv_iinc (v := x_47) (lv' := [(4, .int x_47), (3, .int r_38), (2, .int r_12), (0, .ref x), (1, .int (6 : Int32))]) hx hb dX6_readEither_96 hl (k := 2) rfl ex_47.symm (by decide) rfl (fun ls hl => ?_)
                  refine lv_goto (tgt := 7) hx hb dX6_readEither_99 (by decide) ?_
                  exact ih7 r_12 r_38 x_47 _ _ L_36 h_45 (by omega) (by omega) (by omega) (by omega) (by omega) (by omega)  ls (by omega) hW hT hM   (lv_sub hl [0, 1, 2, 3, 4] rfl)
                · skip
                  refine lv_iconst (v := 1) hx hb dX6_readEither_84 (by decide) ?_
                  exact hx_retz hx hb hr rfl hlk hW ⟨(by decide), hT, hM⟩ dX6_readEither_85
            · skip
              refine lv_aload_n hx hb dX6_readEither_47 rfl (lv_at hl 3 rfl) ?_
              refine lv_dup hx hb dX6_readEither_48 rfl ?_
              refine hk_geti hx hb hts hC_6 hown hW (gx.S hM) tt_6 2 (by decide) rfl kw_127 ⟨rfl, rfl, rfl⟩ fw_15 dX6_readEither_49 ?_
              refine lv_iconst (v := 3) hx hb dX6_readEither_52 (by decide) ?_
              refine lv_iadd hx hb dX6_readEither_53 ?_
              have rg_49 := i32_r w_15
              refine lv_topi (fun x_50 ex_50 => ?_)
              have zx_50 : x_50.toInt = w_15.toInt + 3 := by rw [ex_50]; exact i32_add rfl (by decide) (by omega) (by omega)
              refine hx_puti hx hb hts hC_6 hown hW hT (hx_S.rf (M := [(6, 2)])) (gx.S hM) tt_6 2 (by decide) rfl kw_127 ⟨rfl, rfl, rfl⟩ rfl (x := x_50) ⟨by omega, by omega⟩ rfl rfl rfl (List.mem_singleton.mpr rfl) dX6_readEither_54 (fun H locs h_51 eh_51 hW hT hs => ?_)
              replace fx_1 := (hs.o (gx.S hM) trivial rfl).1.trans fx_1
              replace hM := hM.tr (hs.mono (by decide))
              have f_52 : h_51.2.1 x 2 = x_50 := by rw [eh_51]; exact hx_pi_at _ _ _ _
              refine lv_goto (tgt := 96) hx hb dX6_readEither_57 (by decide) ?_
              obtain ⟨x_53, ex_53⟩ : ∃ y : Int32, y = iv7_4 + Int32.ofInt 1 := ⟨_, rfl⟩
              have rg_54 := i32_r iv7_4
              have zx_53 : x_53.toInt = iv7_4.toInt + (1) := by rw [ex_53]; exact i32_add rfl (by decide) (by omega) (by omega)
              refine lv_iinc (v := x_53) (lv' := [(4, .int x_53), (2, .int r_12), (3, .int iv7_3), (0, .ref x), (1, .int (6 : Int32))]) hx hb dX6_readEither_96 hl (k := 1) rfl ex_53.symm (by decide) rfl (fun ls hl => ?_)
              refine lv_goto (tgt := 7) hx hb dX6_readEither_99 (by decide) ?_
              exact ih7 r_12 iv7_3 x_53 _ _ L_10 h_51 (by omega) (by omega) (by omega) (by omega) (by omega) (by omega)  ls (by omega) hW hT hM   (lv_sub hl [0, 2, 1, 3, 4] rfl)
          · skip
            refine lv_aload_n hx hb dX6_readEither_28 rfl (lv_at hl 3 rfl) ?_
            refine hk_getr hx hb hts hC_6 hown hW (gx.S hM) tt_6 6 (by decide) rfl kw_131 ⟨rfl, rfl, rfl⟩ ((hM.o gx trivial rfl).2.trans f_x_6) dX6_readEither_29 ?_
            refine lv_iconst (v := -1) hx hb dX6_readEither_32 (by decide) ?_
            have zc_m1 : (-1 : Int32).toInt = -1 := by decide
            refine hx_gov (hx_runV (As := [.int (-1 : Int32)]) (rest := []) ⟨hx, hb, hml, hown, hts⟩ hW (gqi.S hM) tt_0 (T := TX0) (N := 5) rfl (t_X0_addProof l dC dI dA L_3 h_4 H.size qi (-1 : Int32) hT (gqi.S hM)) (cwV 1 hts (hx_gV kw_583 kw_580 kw_581 kw_582 kw_96) rfl rfl rfl (by decide +kernel) ⟨Nat.le_of_ble_eq_true rfl, Nat.le_of_ble_eq_true rfl⟩) rfl hl.1 rfl (Nat.le_of_ble_eq_true rfl) dX6_readEither_33 ⟨Nat.le_of_ble_eq_true rfl, Nat.le_of_ble_eq_true rfl⟩) hW (fun L_55 h_56 H locs p_58 hW => ?_)
            obtain ⟨hT, hs⟩ := p_58
            replace hT : hx_T T_tb L_55 h_56 := hT
            replace hs : hx_S T_tb [(0, 4), (12, 0)] L_3 h_4 L_55 h_56 := hs
            replace fx_1 := (hs.o (gx.S hM) trivial rfl).1.trans fx_1
            replace hM := hM.tr (hs.mono (by decide))
            refine lv_aload_n hx hb dX6_readEither_36 rfl (lv_at hl 3 rfl) ?_
            refine va_ldcS (tx := P_st.getD 2 "") hx hb hown (zVR 2 (by decide)) dX6_readEither_37 ?_
            refine hx_goi (hx_runVX (As := [.ref (b0.2.2.2.1 2)]) (rest := []) ⟨hx, hb, hml, hown, hts⟩ hW (gx.S hM) tt_6 (T := TX6) (N := 7) rfl (t_X6_isNextWord l dC dI dA L_55 h_56 H.size b0 x 2 hT (gx.S hM) (by decide) qt (gqt.S hM) ((hM.o gx trivial rfl).2.trans f_x_0)) hZ (cwV 1 hts (hx_gV kw_565 kw_562 kw_564 kw_14 kw_95) rfl rfl rfl (by decide +kernel) ⟨Nat.le_of_ble_eq_true rfl, Nat.le_of_ble_eq_true rfl⟩) rfl hl.1 rfl (Nat.le_of_ble_eq_true rfl) dX6_readEither_39 ⟨Nat.le_of_ble_eq_true rfl, Nat.le_of_ble_eq_true rfl⟩) hW (fun r_62 L_60 h_61 H locs p_63 hW => ?_)
            obtain ⟨⟨w_65, fw_65, hr_64⟩, hT, hs⟩ := p_63
            replace hT : hx_T T_tb L_60 h_61 := hT
            replace hs : hx_S T_tb [(6, 2)] L_55 h_56 L_60 h_61 := hs
            replace fx_1 := (hs.o (gx.S hM) trivial rfl).1.trans fx_1
            replace hM := hM.tr (hs.mono (by decide))
            have fw_65 : h_61.2.1 x 2 = w_65 := fw_65
            have bw_65 := hT.gi (gx.S hM) tt_6 (k := 2) rfl
            rw [fw_65] at bw_65
            have bw_65 : 0 ≤ w_65.toInt ∧ w_65.toInt ≤ 402 := bw_65
            refine lv_istore_n (lv' := [(2, .int r_62), (4, .int iv7_4), (3, .int iv7_3), (0, .ref x), (1, .int (6 : Int32))]) hx hb dX6_readEither_42 rfl hl (by decide) rfl (fun ls hl => ?_)
            refine lv_iload_n hx hb dX6_readEither_43 rfl (lv_at hl 0 rfl) ?_
            refine hb_if_eq (zx := r_62.toInt) (tgt := 60) hx hb rfl dX6_readEither_44 (by decide) (fun c_66 => ?_) (fun c_66 => ?_)
            · skip
              refine lv_iload_n hx hb dX6_readEither_60 rfl (lv_at hl 2 rfl) ?_
              refine hb_if_eq (zx := iv7_3.toInt) (tgt := 73) hx hb rfl dX6_readEither_61 (by decide) (fun c_67 => ?_) (fun c_67 => ?_)
              · skip
                refine lv_aload_n hx hb dX6_readEither_73 rfl (lv_at hl 3 rfl) ?_
                refine va_ldcS (tx := P_st.getD 3 "") hx hb hown (zVR 3 (by decide)) dX6_readEither_74 ?_
                refine hx_goi (hx_runVX (As := [.ref (b0.2.2.2.1 3)]) (rest := []) ⟨hx, hb, hml, hown, hts⟩ hW (gx.S hM) tt_6 (T := TX6) (N := 7) rfl (t_X6_isNextWord l dC dI dA L_60 h_61 H.size b0 x 3 hT (gx.S hM) (by decide) qt (gqt.S hM) ((hM.o gx trivial rfl).2.trans f_x_0)) hZ (cwV 1 hts (hx_gV kw_565 kw_562 kw_564 kw_14 kw_95) rfl rfl rfl (by decide +kernel) ⟨Nat.le_of_ble_eq_true rfl, Nat.le_of_ble_eq_true rfl⟩) rfl hl.1 rfl (Nat.le_of_ble_eq_true rfl) dX6_readEither_76 ⟨Nat.le_of_ble_eq_true rfl, Nat.le_of_ble_eq_true rfl⟩) hW (fun r_70 L_68 h_69 H locs p_71 hW => ?_)
                obtain ⟨⟨w_73, fw_73, hr_72⟩, hT, hs⟩ := p_71
                replace hT : hx_T T_tb L_68 h_69 := hT
                replace hs : hx_S T_tb [(6, 2)] L_60 h_61 L_68 h_69 := hs
                replace fx_1 := (hs.o (gx.S hM) trivial rfl).1.trans fx_1
                replace hM := hM.tr (hs.mono (by decide))
                have fw_73 : h_69.2.1 x 2 = w_73 := fw_73
                have bw_73 := hT.gi (gx.S hM) tt_6 (k := 2) rfl
                rw [fw_73] at bw_73
                have bw_73 : 0 ≤ w_73.toInt ∧ w_73.toInt ≤ 402 := bw_73
                refine lv_istore_n (lv' := [(3, .int r_70), (2, .int r_62), (4, .int iv7_4), (0, .ref x), (1, .int (6 : Int32))]) hx hb dX6_readEither_79 rfl hl (by decide) rfl (fun ls hl => ?_)
                refine lv_iload_n hx hb dX6_readEither_80 rfl (lv_at hl 0 rfl) ?_
                refine hb_if_ne (zx := r_70.toInt) (tgt := 86) hx hb rfl dX6_readEither_81 (by decide) (fun c_74 => ?_) (fun c_74 => ?_)
                · skip
                  refine lv_aload_n hx hb dX6_readEither_86 rfl (lv_at hl 3 rfl) ?_
                  refine lv_dup hx hb dX6_readEither_87 rfl ?_
                  refine hk_geti hx hb hts hC_6 hown hW (gx.S hM) tt_6 2 (by decide) rfl kw_127 ⟨rfl, rfl, rfl⟩ fw_73 dX6_readEither_88 ?_
                  refine lv_iconst (v := 2) hx hb dX6_readEither_91 (by decide) ?_
                  refine lv_iadd hx hb dX6_readEither_92 ?_
                  have rg_75 := i32_r w_73
                  refine lv_topi (fun x_76 ex_76 => ?_)
                  have zx_76 : x_76.toInt = w_73.toInt + 2 := by rw [ex_76]; exact i32_add rfl (by decide) (by omega) (by omega)
                  refine hx_puti hx hb hts hC_6 hown hW hT (hx_S.rf (M := [(6, 2)])) (gx.S hM) tt_6 2 (by decide) rfl kw_127 ⟨rfl, rfl, rfl⟩ rfl (x := x_76) ⟨by omega, by omega⟩ rfl rfl rfl (List.mem_singleton.mpr rfl) dX6_readEither_93 (fun H locs h_77 eh_77 hW hT hs => ?_)
                  replace fx_1 := (hs.o (gx.S hM) trivial rfl).1.trans fx_1
                  replace hM := hM.tr (hs.mono (by decide))
                  have f_78 : h_77.2.1 x 2 = x_76 := by rw [eh_77]; exact hx_pi_at _ _ _ _
                  obtain ⟨x_79, ex_79⟩ : ∃ y : Int32, y = iv7_4 + Int32.ofInt 1 := ⟨_, rfl⟩
                  have rg_80 := i32_r iv7_4
                  have zx_79 : x_79.toInt = iv7_4.toInt + (1) := by rw [ex_79]; exact i32_add rfl (by decide) (by omega) (by omega)
                  refine lv_iinc (v := x_79) (lv' := [(4, .int x_79), (3, .int r_70), (2, .int r_62), (0, .ref x), (1, .int (6 : Int32))]) hx hb dX6_readEither_96 hl (k := 2) rfl ex_79.symm (by decide) rfl (fun ls hl => ?_)
                  refine lv_goto (tgt := 7) hx hb dX6_readEither_99 (by decide) ?_
                  exact ih7 r_62 r_70 x_79 _ _ L_68 h_77 (by omega) (by omega) (by omega) (by omega) (by omega) (by omega)  ls (by omega) hW hT hM   (lv_sub hl [0, 1, 2, 3, 4] rfl)
                · skip
                  refine lv_iconst (v := 1) hx hb dX6_readEither_84 (by decide) ?_
                  exact hx_retz hx hb hr rfl hlk hW ⟨(by decide), hT, hM⟩ dX6_readEither_85
              · skip
                refine lv_aload_n hx hb dX6_readEither_64 rfl (lv_at hl 3 rfl) ?_
                refine hk_getr hx hb hts hC_6 hown hW (gx.S hM) tt_6 6 (by decide) rfl kw_131 ⟨rfl, rfl, rfl⟩ ((hM.o gx trivial rfl).2.trans f_x_6) dX6_readEither_65 ?_
                refine lv_bipush (v := -2) hx hb dX6_readEither_68 (by decide) ?_
                have zc_m2 : (-2 : Int32).toInt = -2 := by decide
                refine hx_gov (hx_runV (As := [.int (-2 : Int32)]) (rest := []) ⟨hx, hb, hml, hown, hts⟩ hW (gqi.S hM) tt_0 (T := TX0) (N := 5) rfl (t_X0_addProof l dC dI dA L_60 h_61 H.size qi (-2 : Int32) hT (gqi.S hM)) (cwV 1 hts (hx_gV kw_583 kw_580 kw_581 kw_582 kw_96) rfl rfl rfl (by decide +kernel) ⟨Nat.le_of_ble_eq_true rfl, Nat.le_of_ble_eq_true rfl⟩) rfl hl.1 rfl (Nat.le_of_ble_eq_true rfl) dX6_readEither_70 ⟨Nat.le_of_ble_eq_true rfl, Nat.le_of_ble_eq_true rfl⟩) hW (fun L_81 h_82 H locs p_84 hW => ?_)
                obtain ⟨hT, hs⟩ := p_84
                replace hT : hx_T T_tb L_81 h_82 := hT
                replace hs : hx_S T_tb [(0, 4), (12, 0)] L_60 h_61 L_81 h_82 := hs
                replace fx_1 := (hs.o (gx.S hM) trivial rfl).1.trans fx_1
                replace fw_65 := (hs.o (gx.S hM) trivial rfl).1.trans fw_65
                replace hM := hM.tr (hs.mono (by decide))
                refine lv_aload_n hx hb dX6_readEither_73 rfl (lv_at hl 3 rfl) ?_
                refine va_ldcS (tx := P_st.getD 3 "") hx hb hown (zVR 3 (by decide)) dX6_readEither_74 ?_
                refine hx_goi (hx_runVX (As := [.ref (b0.2.2.2.1 3)]) (rest := []) ⟨hx, hb, hml, hown, hts⟩ hW (gx.S hM) tt_6 (T := TX6) (N := 7) rfl (t_X6_isNextWord l dC dI dA L_81 h_82 H.size b0 x 3 hT (gx.S hM) (by decide) qt (gqt.S hM) ((hM.o gx trivial rfl).2.trans f_x_0)) hZ (cwV 1 hts (hx_gV kw_565 kw_562 kw_564 kw_14 kw_95) rfl rfl rfl (by decide +kernel) ⟨Nat.le_of_ble_eq_true rfl, Nat.le_of_ble_eq_true rfl⟩) rfl hl.1 rfl (Nat.le_of_ble_eq_true rfl) dX6_readEither_76 ⟨Nat.le_of_ble_eq_true rfl, Nat.le_of_ble_eq_true rfl⟩) hW (fun r_88 L_86 h_87 H locs p_89 hW => ?_)
                obtain ⟨⟨w_91, fw_91, hr_90⟩, hT, hs⟩ := p_89
                replace hT : hx_T T_tb L_86 h_87 := hT
                replace hs : hx_S T_tb [(6, 2)] L_81 h_82 L_86 h_87 := hs
                replace fx_1 := (hs.o (gx.S hM) trivial rfl).1.trans fx_1
                replace hM := hM.tr (hs.mono (by decide))
                have fw_91 : h_87.2.1 x 2 = w_91 := fw_91
                have bw_91 := hT.gi (gx.S hM) tt_6 (k := 2) rfl
                rw [fw_91] at bw_91
                have bw_91 : 0 ≤ w_91.toInt ∧ w_91.toInt ≤ 402 := bw_91
                refine lv_istore_n (lv' := [(3, .int r_88), (2, .int r_62), (4, .int iv7_4), (0, .ref x), (1, .int (6 : Int32))]) hx hb dX6_readEither_79 rfl hl (by decide) rfl (fun ls hl => ?_)
                refine lv_iload_n hx hb dX6_readEither_80 rfl (lv_at hl 0 rfl) ?_
                refine hb_if_ne (zx := r_88.toInt) (tgt := 86) hx hb rfl dX6_readEither_81 (by decide) (fun c_92 => ?_) (fun c_92 => ?_)
                · skip
                  refine lv_aload_n hx hb dX6_readEither_86 rfl (lv_at hl 3 rfl) ?_
                  refine lv_dup hx hb dX6_readEither_87 rfl ?_
                  refine hk_geti hx hb hts hC_6 hown hW (gx.S hM) tt_6 2 (by decide) rfl kw_127 ⟨rfl, rfl, rfl⟩ fw_91 dX6_readEither_88 ?_
                  refine lv_iconst (v := 2) hx hb dX6_readEither_91 (by decide) ?_
                  refine lv_iadd hx hb dX6_readEither_92 ?_
                  have rg_93 := i32_r w_91
                  refine lv_topi (fun x_94 ex_94 => ?_)
                  have zx_94 : x_94.toInt = w_91.toInt + 2 := by rw [ex_94]; exact i32_add rfl (by decide) (by omega) (by omega)
                  refine hx_puti hx hb hts hC_6 hown hW hT (hx_S.rf (M := [(6, 2)])) (gx.S hM) tt_6 2 (by decide) rfl kw_127 ⟨rfl, rfl, rfl⟩ rfl (x := x_94) ⟨by omega, by omega⟩ rfl rfl rfl (List.mem_singleton.mpr rfl) dX6_readEither_93 (fun H locs h_95 eh_95 hW hT hs => ?_)
                  replace fx_1 := (hs.o (gx.S hM) trivial rfl).1.trans fx_1
                  replace hM := hM.tr (hs.mono (by decide))
                  have f_96 : h_95.2.1 x 2 = x_94 := by rw [eh_95]; exact hx_pi_at _ _ _ _
                  obtain ⟨x_97, ex_97⟩ : ∃ y : Int32, y = iv7_4 + Int32.ofInt 1 := ⟨_, rfl⟩
                  have rg_98 := i32_r iv7_4
                  have zx_97 : x_97.toInt = iv7_4.toInt + (1) := by rw [ex_97]; exact i32_add rfl (by decide) (by omega) (by omega)
                  refine lv_iinc (v := x_97) (lv' := [(4, .int x_97), (3, .int r_88), (2, .int r_62), (0, .ref x), (1, .int (6 : Int32))]) hx hb dX6_readEither_96 hl (k := 2) rfl ex_97.symm (by decide) rfl (fun ls hl => ?_)
                  refine lv_goto (tgt := 7) hx hb dX6_readEither_99 (by decide) ?_
                  exact ih7 r_62 r_88 x_97 _ _ L_86 h_95 (by omega) (by omega) (by omega) (by omega) (by omega) (by omega)  ls (by omega) hW hT hM   (lv_sub hl [0, 1, 2, 3, 4] rfl)
                · skip
                  refine lv_iconst (v := 1) hx hb dX6_readEither_84 (by decide) ?_
                  exact hx_retz hx hb hr rfl hlk hW ⟨(by decide), hT, hM⟩ dX6_readEither_85
            · skip
              refine lv_aload_n hx hb dX6_readEither_47 rfl (lv_at hl 3 rfl) ?_
              refine lv_dup hx hb dX6_readEither_48 rfl ?_
              refine hk_geti hx hb hts hC_6 hown hW (gx.S hM) tt_6 2 (by decide) rfl kw_127 ⟨rfl, rfl, rfl⟩ fw_65 dX6_readEither_49 ?_
              refine lv_iconst (v := 3) hx hb dX6_readEither_52 (by decide) ?_
              refine lv_iadd hx hb dX6_readEither_53 ?_
              have rg_99 := i32_r w_65
              refine lv_topi (fun x_100 ex_100 => ?_)
              have zx_100 : x_100.toInt = w_65.toInt + 3 := by rw [ex_100]; exact i32_add rfl (by decide) (by omega) (by omega)
              refine hx_puti hx hb hts hC_6 hown hW hT (hx_S.rf (M := [(6, 2)])) (gx.S hM) tt_6 2 (by decide) rfl kw_127 ⟨rfl, rfl, rfl⟩ rfl (x := x_100) ⟨by omega, by omega⟩ rfl rfl rfl (List.mem_singleton.mpr rfl) dX6_readEither_54 (fun H locs h_101 eh_101 hW hT hs => ?_)
              replace fx_1 := (hs.o (gx.S hM) trivial rfl).1.trans fx_1
              replace hM := hM.tr (hs.mono (by decide))
              have f_102 : h_101.2.1 x 2 = x_100 := by rw [eh_101]; exact hx_pi_at _ _ _ _
              refine lv_goto (tgt := 96) hx hb dX6_readEither_57 (by decide) ?_
              obtain ⟨x_103, ex_103⟩ : ∃ y : Int32, y = iv7_4 + Int32.ofInt 1 := ⟨_, rfl⟩
              have rg_104 := i32_r iv7_4
              have zx_103 : x_103.toInt = iv7_4.toInt + (1) := by rw [ex_103]; exact i32_add rfl (by decide) (by omega) (by omega)
              refine lv_iinc (v := x_103) (lv' := [(4, .int x_103), (2, .int r_62), (3, .int iv7_3), (0, .ref x), (1, .int (6 : Int32))]) hx hb dX6_readEither_96 hl (k := 1) rfl ex_103.symm (by decide) rfl (fun ls hl => ?_)
              refine lv_goto (tgt := 7) hx hb dX6_readEither_99 (by decide) ?_
              exact ih7 r_62 iv7_3 x_103 _ _ L_60 h_101 (by omega) (by omega) (by omega) (by omega) (by omega) (by omega)  ls (by omega) hW hT hM   (lv_sub hl [0, 2, 1, 3, 4] rfl)
  have zk_0 : (0 : Int32).toInt = 0 := by decide
  have zk_0 : (0 : Int32).toInt = 0 := by decide
  have zk_0 : (0 : Int32).toInt = 0 := by decide
  exact loop7 402 (0 : Int32) (0 : Int32) (0 : Int32) _ _ L h (by decide) (by decide) (by decide) (by decide) (by decide) (by decide)  ls (by omega) hW hT hM   hl


set_option maxHeartbeats 4000000 in
set_option maxRecDepth 100000 in
theorem t_X6_readOne_5 (l : Launch) (dC : Nat → ClassId) (dI : Nat → Nat → Nat) (dA : Nat → ClassId) (L : List Nat) (h : hx_h) (sz : Nat) (b0 : hx_z) (x : Nat) (hT : hx_T T_tb L h) (gx : hx_g L h x 6) (qt : Nat) (gqt : hx_g L h qt 42) (f_x_0 : h.2.2 x 0 = some qt) (qi : Nat) (gqi : hx_g L h qi 0) (f_x_6 : h.2.2 x 6 = some qi) : Met l yX6_readOne (Cond.code yX6_readOne cX6_readOne 3 (some .boolean) :: hx_all) ({ frames := 13, cells := 0, slots := 0, locals := 296 }) (va_Pc [.ref x, .int (5 : Int32)] (hx_BX T_tb (P_ty dA) (dC, dI) vwCl L h sz b0)) (va_Qi (fun (r : Int32) (u : List Nat × hx_h) => (r.toInt = 0 ∨ r.toInt = 1) ∧ hx_T T_tb u.1 u.2 ∧ hx_S T_tb [(0, 4), (6, 2), (6, 3), (6, 5), (12, 0)] L h u.1 u.2) (hx_E T_tb (P_ty dA) (dC, dI) vwCl (hx_A L sz)) (hx_A L sz)) 0 0 (hx_A L sz) := by
  refine hx_metX (lv := [(0, .ref x), (1, .int (5 : Int32))]) (by decide +kernel) rfl (Nat.le_of_ble_eq_true rfl) rfl ?_
  intro p e s m below meth c hx hb hml hr hlk hts0 hown hin hsz hW hZ ls hl
  have hts : ∀ w ∈ hx_all, w.before _ s = true := fun w hw => hts0 w (List.mem_cons_of_mem _ hw)
  have hown : s.vm.findClass "SmallCourt$Reader" = some m.cls := hown
  have hM : hx_S T_tb [(0, 4), (6, 2), (6, 3), (6, 5), (12, 0)] L h L h := hx_S.rf
  obtain ⟨zLT, zLA, zMT, zMA, zCS, zSF, zVS, zVR⟩ := hZ.2.2.2.2.2.2
  refine lv_aload_n hx hb dX6_readOne_0 rfl (lv_at hl 0 rfl) ?_
  refine va_ldcS (tx := P_st.getD 4 "") hx hb hown (zVR 4 (by decide)) dX6_readOne_1 ?_
  refine hx_goi (hx_runVX (As := [.ref (b0.2.2.2.1 4)]) (rest := []) ⟨hx, hb, hml, hown, hts⟩ hW (gx.S hM) tt_6 (T := TX6) (N := 7) rfl (t_X6_isNextWord l dC dI dA L h s.heap.size b0 x 4 hT (gx.S hM) (by decide) qt (gqt.S hM) ((hM.o gx trivial rfl).2.trans f_x_0)) hZ (cwV 1 hts (hx_gV kw_565 kw_562 kw_564 kw_14 kw_95) rfl rfl rfl (by decide +kernel) ⟨Nat.le_of_ble_eq_true rfl, Nat.le_of_ble_eq_true rfl⟩) rfl hl.1 rfl (Nat.le_of_ble_eq_true rfl) dX6_readOne_3 ⟨Nat.le_of_ble_eq_true rfl, Nat.le_of_ble_eq_true rfl⟩) hW (fun r_3 L_1 h_2 H locs p_4 hW => ?_)
  obtain ⟨⟨w_6, fw_6, hr_5⟩, hT, hs⟩ := p_4
  replace hT : hx_T T_tb L_1 h_2 := hT
  replace hs : hx_S T_tb [(6, 2)] L h L_1 h_2 := hs
  replace hM := hM.tr (hs.mono (by decide))
  have fw_6 : h_2.2.1 x 2 = w_6 := fw_6
  have bw_6 := hT.gi (gx.S hM) tt_6 (k := 2) rfl
  rw [fw_6] at bw_6
  have bw_6 : 0 ≤ w_6.toInt ∧ w_6.toInt ≤ 402 := bw_6
  refine lv_istore_n (lv' := [(2, .int r_3), (0, .ref x), (1, .int (5 : Int32))]) hx hb dX6_readOne_6 rfl hl (by decide) rfl (fun ls hl => ?_)
  refine lv_iload_n hx hb dX6_readOne_7 rfl (lv_at hl 0 rfl) ?_
  refine hb_if_ne (zx := r_3.toInt) (tgt := 25) hx hb rfl dX6_readOne_8 (by decide) (fun c_7 => ?_) (fun c_7 => ?_)
  · skip
    refine lv_iload_n hx hb dX6_readOne_25 rfl (lv_at hl 2 rfl) ?_
    refine lv_bipush (v := 8) hx hb dX6_readOne_26 (by decide) ?_
    refine hb_icmp_lt (zx := 5) (zy := 8) (tgt := 41) hx hb (by decide) (by decide) dX6_readOne_28 (by decide) (fun c_8 => ?_) (fun c_8 => absurd c_8 (by decide))
    refine lv_iload_n hx hb dX6_readOne_41 rfl (lv_at hl 0 rfl) ?_
    refine hb_if_eq (zx := r_3.toInt) (tgt := 78) hx hb rfl dX6_readOne_42 (by decide) (fun c_9 => by exfalso; omega) (fun c_9 => ?_)
    refine lv_aload_n hx hb dX6_readOne_45 rfl (lv_at hl 1 rfl) ?_
    refine lv_dup hx hb dX6_readOne_46 rfl ?_
    refine hk_geti hx hb hts hC_6 hown hW (gx.S hM) tt_6 2 (by decide) rfl kw_127 ⟨rfl, rfl, rfl⟩ fw_6 dX6_readOne_47 ?_
    refine lv_iconst (v := 3) hx hb dX6_readOne_50 (by decide) ?_
    refine lv_iadd hx hb dX6_readOne_51 ?_
    have rg_10 := i32_r w_6
    refine lv_topi (fun x_11 ex_11 => ?_)
    have zx_11 : x_11.toInt = w_6.toInt + 3 := by rw [ex_11]; exact i32_add rfl (by decide) (by omega) (by omega)
    refine hx_puti hx hb hts hC_6 hown hW hT (hx_S.rf (M := [(6, 2)])) (gx.S hM) tt_6 2 (by decide) rfl kw_127 ⟨rfl, rfl, rfl⟩ rfl (x := x_11) ⟨by omega, by omega⟩ rfl rfl rfl (List.mem_singleton.mpr rfl) dX6_readOne_52 (fun H locs h_12 eh_12 hW hT hs => ?_)
    replace hM := hM.tr (hs.mono (by decide))
    have f_13 : h_12.2.1 x 2 = x_11 := by rw [eh_12]; exact hx_pi_at _ _ _ _
    refine lv_aload_n hx hb dX6_readOne_55 rfl (lv_at hl 1 rfl) ?_
    refine lv_iload_n hx hb dX6_readOne_56 rfl (lv_at hl 2 rfl) ?_
    refine lv_iconst (v := 1) hx hb dX6_readOne_57 (by decide) ?_
    refine lv_iadd hx hb dX6_readOne_58 ?_
    refine lv_topi (fun x_14 ex_14 => ?_)
    obtain rfl : x_14 = (6 : Int32) := ex_14.trans (by decide)
    have zc_6 : (6 : Int32).toInt = 6 := by decide
    refine hx_goi (hx_runVX (As := [.int (6 : Int32)]) (rest := []) ⟨hx, hb, hml, hown, hts⟩ hW (gx.S hM) tt_6 (T := TX6) (N := 7) rfl (t_X6_readOne_6 l dC dI dA L_1 h_12 H.size b0 x hT (gx.S hM) qt (gqt.S hM) ((hM.o gx trivial rfl).2.trans f_x_0) qi (gqi.S hM) ((hM.o gx trivial rfl).2.trans f_x_6)) hZ (cwV 1 hts (hx_gV kw_560 kw_557 kw_559 kw_13 kw_95) rfl rfl rfl (by decide +kernel) ⟨Nat.le_of_ble_eq_true rfl, Nat.le_of_ble_eq_true rfl⟩) rfl hl.1 rfl (Nat.le_of_ble_eq_true rfl) dX6_readOne_59 ⟨Nat.le_of_ble_eq_true rfl, Nat.le_of_ble_eq_true rfl⟩) hW (fun r_17 L_15 h_16 H locs p_18 hW => ?_)
    obtain ⟨hr_19, hT, hs⟩ := p_18
    replace hT : hx_T T_tb L_15 h_16 := hT
    replace hs : hx_S T_tb [(0, 4), (6, 2), (6, 3), (6, 5), (12, 0)] L_1 h_12 L_15 h_16 := hs
    replace hM := hM.tr (hs.mono (by decide))
    refine hb_if_ne (zx := r_17.toInt) (tgt := 67) hx hb rfl dX6_readOne_62 (by decide) (fun c_20 => ?_) (fun c_20 => ?_)
    · skip
      refine lv_aload_n hx hb dX6_readOne_67 rfl (lv_at hl 1 rfl) ?_
      refine hk_getr hx hb hts hC_6 hown hW (gx.S hM) tt_6 6 (by decide) rfl kw_131 ⟨rfl, rfl, rfl⟩ ((hM.o gx trivial rfl).2.trans f_x_6) dX6_readOne_68 ?_
      refine lv_bipush (v := -3) hx hb dX6_readOne_71 (by decide) ?_
      have zc_m3 : (-3 : Int32).toInt = -3 := by decide
      refine hx_gov (hx_runV (As := [.int (-3 : Int32)]) (rest := []) ⟨hx, hb, hml, hown, hts⟩ hW (gqi.S hM) tt_0 (T := TX0) (N := 5) rfl (t_X0_addProof l dC dI dA L_15 h_16 H.size qi (-3 : Int32) hT (gqi.S hM)) (cwV 1 hts (hx_gV kw_583 kw_580 kw_581 kw_582 kw_96) rfl rfl rfl (by decide +kernel) ⟨Nat.le_of_ble_eq_true rfl, Nat.le_of_ble_eq_true rfl⟩) rfl hl.1 rfl (Nat.le_of_ble_eq_true rfl) dX6_readOne_73 ⟨Nat.le_of_ble_eq_true rfl, Nat.le_of_ble_eq_true rfl⟩) hW (fun L_21 h_22 H locs p_24 hW => ?_)
      obtain ⟨hT, hs⟩ := p_24
      replace hT : hx_T T_tb L_21 h_22 := hT
      replace hs : hx_S T_tb [(0, 4), (12, 0)] L_15 h_16 L_21 h_22 := hs
      replace hM := hM.tr (hs.mono (by decide))
      refine lv_iconst (v := 1) hx hb dX6_readOne_76 (by decide) ?_
      exact hx_retz hx hb hr rfl hlk hW ⟨(by decide), hT, hM⟩ dX6_readOne_77
    · skip
      refine lv_iconst (v := 0) hx hb dX6_readOne_65 (by decide) ?_
      exact hx_retz hx hb hr rfl hlk hW ⟨(by decide), hT, hM⟩ dX6_readOne_66
  · skip
    refine lv_aload_n hx hb dX6_readOne_11 rfl (lv_at hl 1 rfl) ?_
    refine lv_bipush (v := 40) hx hb dX6_readOne_12 (by decide) ?_
    have zc_40 : (40 : Int32).toInt = 40 := by decide
    refine hx_goi (hx_runV (As := [.int (40 : Int32)]) (rest := []) ⟨hx, hb, hml, hown, hts⟩ hW (gx.S hM) tt_6 (T := TX6) (N := 7) rfl (t_X6_isByte l dC dI dA L_1 h_2 H.size x (40 : Int32) hT (gx.S hM) w_6 fw_6 qt (gqt.S hM) ((hM.o gx trivial rfl).2.trans f_x_0)) (cwV 1 hts (hx_gV kw_569 kw_566 kw_568 kw_15 kw_95) rfl rfl rfl (by decide +kernel) ⟨Nat.le_of_ble_eq_true rfl, Nat.le_of_ble_eq_true rfl⟩) rfl hl.1 rfl (Nat.le_of_ble_eq_true rfl) dX6_readOne_14 ⟨Nat.le_of_ble_eq_true rfl, Nat.le_of_ble_eq_true rfl⟩) hW (fun r_28 L_26 h_27 H locs p_29 hW => ?_)
    obtain ⟨hr_30, hT, hs⟩ := p_29
    replace hT : hx_T T_tb L_26 h_27 := hT
    replace hs : hx_S T_tb [] L_1 h_2 L_26 h_27 := hs
    replace fw_6 := (hs.o (gx.S hM) trivial rfl).1.trans fw_6
    replace hM := hM.tr (hs.mono (by decide))
    refine hb_if_ne (zx := r_28.toInt) (tgt := 25) hx hb rfl dX6_readOne_17 (by decide) (fun c_31 => ?_) (fun c_31 => ?_)
    · skip
      refine lv_iload_n hx hb dX6_readOne_25 rfl (lv_at hl 2 rfl) ?_
      refine lv_bipush (v := 8) hx hb dX6_readOne_26 (by decide) ?_
      refine hb_icmp_lt (zx := 5) (zy := 8) (tgt := 41) hx hb (by decide) (by decide) dX6_readOne_28 (by decide) (fun c_32 => ?_) (fun c_32 => absurd c_32 (by decide))
      refine lv_iload_n hx hb dX6_readOne_41 rfl (lv_at hl 0 rfl) ?_
      refine hb_if_eq (zx := r_3.toInt) (tgt := 78) hx hb rfl dX6_readOne_42 (by decide) (fun c_33 => ?_) (fun c_33 => by exfalso; omega)
      refine lv_aload_n hx hb dX6_readOne_78 rfl (lv_at hl 1 rfl) ?_
      refine lv_dup hx hb dX6_readOne_79 rfl ?_
      refine hk_geti hx hb hts hC_6 hown hW (gx.S hM) tt_6 2 (by decide) rfl kw_127 ⟨rfl, rfl, rfl⟩ fw_6 dX6_readOne_80 ?_
      refine lv_iconst (v := 1) hx hb dX6_readOne_83 (by decide) ?_
      refine lv_iadd hx hb dX6_readOne_84 ?_
      have rg_34 := i32_r w_6
      refine lv_topi (fun x_35 ex_35 => ?_)
      have zx_35 : x_35.toInt = w_6.toInt + 1 := by rw [ex_35]; exact i32_add rfl (by decide) (by omega) (by omega)
      refine hx_puti hx hb hts hC_6 hown hW hT (hx_S.rf (M := [(6, 2)])) (gx.S hM) tt_6 2 (by decide) rfl kw_127 ⟨rfl, rfl, rfl⟩ rfl (x := x_35) ⟨by omega, by omega⟩ rfl rfl rfl (List.mem_singleton.mpr rfl) dX6_readOne_85 (fun H locs h_36 eh_36 hW hT hs => ?_)
      replace hM := hM.tr (hs.mono (by decide))
      have f_37 : h_36.2.1 x 2 = x_35 := by rw [eh_36]; exact hx_pi_at _ _ _ _
      refine lv_aload_n hx hb dX6_readOne_88 rfl (lv_at hl 1 rfl) ?_
      refine lv_iload_n hx hb dX6_readOne_89 rfl (lv_at hl 2 rfl) ?_
      refine lv_iconst (v := 1) hx hb dX6_readOne_90 (by decide) ?_
      refine lv_iadd hx hb dX6_readOne_91 ?_
      refine lv_topi (fun x_38 ex_38 => ?_)
      obtain rfl : x_38 = (6 : Int32) := ex_38.trans (by decide)
      have zc_6 : (6 : Int32).toInt = 6 := by decide
      refine hx_goi (hx_runVX (As := [.int (6 : Int32)]) (rest := []) ⟨hx, hb, hml, hown, hts⟩ hW (gx.S hM) tt_6 (T := TX6) (N := 7) rfl (t_X6_readEither_6 l dC dI dA L_26 h_36 H.size b0 x hT (gx.S hM) qt (gqt.S hM) ((hM.o gx trivial rfl).2.trans f_x_0) qi (gqi.S hM) ((hM.o gx trivial rfl).2.trans f_x_6)) hZ (cwV 1 hts (hx_gV kw_556 kw_553 kw_555 kw_12 kw_95) rfl rfl rfl (by decide +kernel) ⟨Nat.le_of_ble_eq_true rfl, Nat.le_of_ble_eq_true rfl⟩) rfl hl.1 rfl (Nat.le_of_ble_eq_true rfl) dX6_readOne_92 ⟨Nat.le_of_ble_eq_true rfl, Nat.le_of_ble_eq_true rfl⟩) hW (fun r_41 L_39 h_40 H locs p_42 hW => ?_)
      obtain ⟨hr_43, hT, hs⟩ := p_42
      replace hT : hx_T T_tb L_39 h_40 := hT
      replace hs : hx_S T_tb [(0, 4), (6, 2), (6, 3), (6, 5), (12, 0)] L_26 h_36 L_39 h_40 := hs
      replace hM := hM.tr (hs.mono (by decide))
      refine hb_if_ne (zx := r_41.toInt) (tgt := 100) hx hb rfl dX6_readOne_95 (by decide) (fun c_44 => ?_) (fun c_44 => ?_)
      · skip
        refine lv_aload_n hx hb dX6_readOne_100 rfl (lv_at hl 1 rfl) ?_
        refine hx_gov (hx_runV (As := []) (rest := []) ⟨hx, hb, hml, hown, hts⟩ hW (gx.S hM) tt_6 (T := TX6) (N := 7) rfl (t_X6_skipBlanks l dC dI dA L_39 h_40 H.size x hT (gx.S hM) qt (gqt.S hM) ((hM.o gx trivial rfl).2.trans f_x_0)) (cwV 0 hts (hx_gV kw_458 kw_455 kw_457 kw_1 kw_95) rfl rfl rfl (by decide +kernel) ⟨Nat.le_of_ble_eq_true rfl, Nat.le_of_ble_eq_true rfl⟩) rfl hl.1 rfl (Nat.le_of_ble_eq_true rfl) dX6_readOne_101 ⟨Nat.le_of_ble_eq_true rfl, Nat.le_of_ble_eq_true rfl⟩) hW (fun L_45 h_46 H locs p_48 hW => ?_)
        obtain ⟨hT, hs⟩ := p_48
        replace hT : hx_T T_tb L_45 h_46 := hT
        replace hs : hx_S T_tb [(6, 2)] L_39 h_40 L_45 h_46 := hs
        replace hM := hM.tr (hs.mono (by decide))
        refine lv_aload_n hx hb dX6_readOne_104 rfl (lv_at hl 1 rfl) ?_
        refine lv_bipush (v := 41) hx hb dX6_readOne_105 (by decide) ?_
        have zc_41 : (41 : Int32).toInt = 41 := by decide
        obtain ⟨fv_50, efv_50⟩ : ∃ y : Int32, y = h_46.2.1 x 2 := ⟨_, rfl⟩
        have bfv_50 := hT.gi (gx.S hM) tt_6 (k := 2) rfl
        rw [← efv_50] at bfv_50
        have bfv_50 : 0 ≤ fv_50.toInt ∧ fv_50.toInt ≤ 402 := bfv_50
        have ffv_50 := efv_50.symm
        refine hx_goi (hx_runV (As := [.int (41 : Int32)]) (rest := []) ⟨hx, hb, hml, hown, hts⟩ hW (gx.S hM) tt_6 (T := TX6) (N := 7) rfl (t_X6_isByte l dC dI dA L_45 h_46 H.size x (41 : Int32) hT (gx.S hM) fv_50 ffv_50 qt (gqt.S hM) ((hM.o gx trivial rfl).2.trans f_x_0)) (cwV 1 hts (hx_gV kw_569 kw_566 kw_568 kw_15 kw_95) rfl rfl rfl (by decide +kernel) ⟨Nat.le_of_ble_eq_true rfl, Nat.le_of_ble_eq_true rfl⟩) rfl hl.1 rfl (Nat.le_of_ble_eq_true rfl) dX6_readOne_107 ⟨Nat.le_of_ble_eq_true rfl, Nat.le_of_ble_eq_true rfl⟩) hW (fun r_53 L_51 h_52 H locs p_54 hW => ?_)
        obtain ⟨hr_55, hT, hs⟩ := p_54
        replace hT : hx_T T_tb L_51 h_52 := hT
        replace hs : hx_S T_tb [] L_45 h_46 L_51 h_52 := hs
        replace ffv_50 := (hs.o (gx.S hM) trivial rfl).1.trans ffv_50
        replace hM := hM.tr (hs.mono (by decide))
        refine hb_if_ne (zx := r_53.toInt) (tgt := 123) hx hb rfl dX6_readOne_110 (by decide) (fun c_56 => ?_) (fun c_56 => ?_)
        · skip
          refine lv_aload_n hx hb dX6_readOne_123 rfl (lv_at hl 1 rfl) ?_
          refine lv_dup hx hb dX6_readOne_124 rfl ?_
          refine hk_geti hx hb hts hC_6 hown hW (gx.S hM) tt_6 2 (by decide) rfl kw_127 ⟨rfl, rfl, rfl⟩ ffv_50 dX6_readOne_125 ?_
          refine lv_iconst (v := 1) hx hb dX6_readOne_128 (by decide) ?_
          refine lv_iadd hx hb dX6_readOne_129 ?_
          have rg_57 := i32_r fv_50
          refine lv_topi (fun x_58 ex_58 => ?_)
          have zx_58 : x_58.toInt = fv_50.toInt + 1 := by rw [ex_58]; exact i32_add rfl (by decide) (by omega) (by omega)
          refine hx_puti hx hb hts hC_6 hown hW hT (hx_S.rf (M := [(6, 2)])) (gx.S hM) tt_6 2 (by decide) rfl kw_127 ⟨rfl, rfl, rfl⟩ rfl (x := x_58) ⟨by omega, by omega⟩ rfl rfl rfl (List.mem_singleton.mpr rfl) dX6_readOne_130 (fun H locs h_59 eh_59 hW hT hs => ?_)
          replace hM := hM.tr (hs.mono (by decide))
          have f_60 : h_59.2.1 x 2 = x_58 := by rw [eh_59]; exact hx_pi_at _ _ _ _
          refine lv_iconst (v := 1) hx hb dX6_readOne_133 (by decide) ?_
          exact hx_retz hx hb hr rfl hlk hW ⟨(by decide), hT, hM⟩ dX6_readOne_134
        · skip
          refine lv_aload_n hx hb dX6_readOne_113 rfl (lv_at hl 1 rfl) ?_
          refine lv_aload_n hx hb dX6_readOne_114 rfl (lv_at hl 1 rfl) ?_
          refine hk_geti hx hb hts hC_6 hown hW (gx.S hM) tt_6 2 (by decide) rfl kw_127 ⟨rfl, rfl, rfl⟩ ffv_50 dX6_readOne_115 ?_
          refine lv_iconst (v := 0) hx hb dX6_readOne_118 (by decide) ?_
          have zc_0 : (0 : Int32).toInt = 0 := by decide
          refine hx_goi (hx_runV (As := [.int fv_50, .int (0 : Int32)]) (rest := []) ⟨hx, hb, hml, hown, hts⟩ hW (gx.S hM) tt_6 (T := TX6) (N := 7) rfl (t_X6_refuse l dC dI dA L_51 h_52 H.size x fv_50 (0 : Int32) hT (gx.S hM)) (cwV 2 hts (hx_gV kw_527 kw_524 kw_526 kw_6 kw_95) rfl rfl rfl (by decide +kernel) ⟨Nat.le_of_ble_eq_true rfl, Nat.le_of_ble_eq_true rfl⟩) rfl hl.1 rfl (Nat.le_of_ble_eq_true rfl) dX6_readOne_119 ⟨Nat.le_of_ble_eq_true rfl, Nat.le_of_ble_eq_true rfl⟩) hW (fun r_63 L_61 h_62 H locs p_64 hW => ?_)
          obtain ⟨hr_65, hT, hs⟩ := p_64
          replace hT : hx_T T_tb L_61 h_62 := hT
          replace hs : hx_S T_tb [(6, 3)] L_51 h_52 L_61 h_62 := hs
          replace ffv_50 := (hs.o (gx.S hM) trivial rfl).1.trans ffv_50
          replace hM := hM.tr (hs.mono (by decide))
          exact hx_retz hx hb hr (hx_nar01 (by omega)) hlk hW ⟨(by omega), hT, hM⟩ dX6_readOne_122
      · skip
        refine lv_iconst (v := 0) hx hb dX6_readOne_98 (by decide) ?_
        exact hx_retz hx hb hr rfl hlk hW ⟨(by decide), hT, hM⟩ dX6_readOne_99
    · skip
      refine lv_aload_n hx hb dX6_readOne_20 rfl (lv_at hl 1 rfl) ?_
      refine hx_goi (hx_runVX (As := []) (rest := []) ⟨hx, hb, hml, hown, hts⟩ hW (gx.S hM) tt_6 (T := TX6) (N := 7) rfl (t_X6_readTerm l dC dI dA L_26 h_27 H.size b0 x hT (gx.S hM) qt (gqt.S hM) ((hM.o gx trivial rfl).2.trans f_x_0) qi (gqi.S hM) ((hM.o gx trivial rfl).2.trans f_x_6)) hZ (cwV 0 hts (hx_gV kw_573 kw_570 kw_572 kw_16 kw_95) rfl rfl rfl (by decide +kernel) ⟨Nat.le_of_ble_eq_true rfl, Nat.le_of_ble_eq_true rfl⟩) rfl hl.1 rfl (Nat.le_of_ble_eq_true rfl) dX6_readOne_21 ⟨Nat.le_of_ble_eq_true rfl, Nat.le_of_ble_eq_true rfl⟩) hW (fun r_68 L_66 h_67 H locs p_69 hW => ?_)
      obtain ⟨hr_70, hT, hs⟩ := p_69
      replace hT : hx_T T_tb L_66 h_67 := hT
      replace hs : hx_S T_tb [(0, 4), (6, 2), (6, 3), (6, 5), (12, 0)] L_26 h_27 L_66 h_67 := hs
      replace hM := hM.tr (hs.mono (by decide))
      exact hx_retz hx hb hr (hx_nar01 (by omega)) hlk hW ⟨(by omega), hT, hM⟩ dX6_readOne_24


set_option maxHeartbeats 4000000 in
set_option maxRecDepth 100000 in
theorem t_X6_readEither_5 (l : Launch) (dC : Nat → ClassId) (dI : Nat → Nat → Nat) (dA : Nat → ClassId) (L : List Nat) (h : hx_h) (sz : Nat) (b0 : hx_z) (x : Nat) (hT : hx_T T_tb L h) (gx : hx_g L h x 6) (qt : Nat) (gqt : hx_g L h qt 42) (f_x_0 : h.2.2 x 0 = some qt) (qi : Nat) (gqi : hx_g L h qi 0) (f_x_6 : h.2.2 x 6 = some qi) : Met l yX6_readEither (Cond.code yX6_readEither cX6_readEither 5 (some .boolean) :: hx_all) ({ frames := 14, cells := 0, slots := 0, locals := 318 }) (va_Pc [.ref x, .int (5 : Int32)] (hx_BX T_tb (P_ty dA) (dC, dI) vwCl L h sz b0)) (va_Qi (fun (r : Int32) (u : List Nat × hx_h) => (r.toInt = 0 ∨ r.toInt = 1) ∧ hx_T T_tb u.1 u.2 ∧ hx_S T_tb [(0, 4), (6, 2), (6, 3), (6, 5), (12, 0)] L h u.1 u.2) (hx_E T_tb (P_ty dA) (dC, dI) vwCl (hx_A L sz)) (hx_A L sz)) 0 0 (hx_A L sz) := by
  refine hx_metX (lv := [(0, .ref x), (1, .int (5 : Int32))]) (by decide +kernel) rfl (Nat.le_of_ble_eq_true rfl) rfl ?_
  intro p e s m below meth c hx hb hml hr hlk hts0 hown hin hsz hW hZ ls hl
  have hts : ∀ w ∈ hx_all, w.before _ s = true := fun w hw => hts0 w (List.mem_cons_of_mem _ hw)
  have hown : s.vm.findClass "SmallCourt$Reader" = some m.cls := hown
  have hM : hx_S T_tb [(0, 4), (6, 2), (6, 3), (6, 5), (12, 0)] L h L h := hx_S.rf
  obtain ⟨zLT, zLA, zMT, zMA, zCS, zSF, zVS, zVR⟩ := hZ.2.2.2.2.2.2
  refine lv_iconst (v := 0) hx hb dX6_readEither_0 (by decide) ?_
  refine lv_istore_n (lv' := [(2, .int (0 : Int32)), (0, .ref x), (1, .int (5 : Int32))]) hx hb dX6_readEither_1 rfl hl (by decide) rfl (fun ls hl => ?_)
  refine lv_iconst (v := 0) hx hb dX6_readEither_2 (by decide) ?_
  refine lv_istore_n (lv' := [(3, .int (0 : Int32)), (2, .int (0 : Int32)), (0, .ref x), (1, .int (5 : Int32))]) hx hb dX6_readEither_3 rfl hl (by decide) rfl (fun ls hl => ?_)
  refine lv_iconst (v := 0) hx hb dX6_readEither_4 (by decide) ?_
  refine lv_istore (lv' := [(4, .int (0 : Int32)), (3, .int (0 : Int32)), (2, .int (0 : Int32)), (0, .ref x), (1, .int (5 : Int32))]) hx hb dX6_readEither_5 hl (by decide) rfl (fun ls hl => ?_)
  have loop7 : ∀ (n7 : Nat) (iv7_2 iv7_3 iv7_4 : Int32) (H : Heap) (locs : List Loc) (hL1 : List Nat) (hl1 : hx_h), 0 ≤ iv7_2.toInt → iv7_2.toInt ≤ 1 → 0 ≤ iv7_3.toInt → iv7_3.toInt ≤ 1 → 0 ≤ iv7_4.toInt → iv7_4.toInt ≤ 401 → ∀ (ls : Array Slot), 401 - iv7_4.toInt < (n7 : Int) → hx_W T_tb (P_ty dA) (dC, dI) vwCl (hx_A L sz) s.heap hL1 hl1 s H locs → hx_T T_tb hL1 hl1 → hx_S T_tb [(0, 4), (6, 2), (6, 3), (6, 5), (12, 0)] L h hL1 hl1 → lv_has ls 5 [(4, .int iv7_4), (3, .int iv7_3), (2, .int iv7_2), (0, .ref x), (1, .int (5 : Int32))] → W p l e ({ frames := 14, cells := 0, slots := 0, locals := 318 }) s m ([.ref x, .int (5 : Int32)] : List Value).toArray below meth c H locs 0 0 (MQ below (va_Qi (fun (r : Int32) (u : List Nat × hx_h) => (r.toInt = 0 ∨ r.toInt = 1) ∧ hx_T T_tb u.1 u.2 ∧ hx_S T_tb [(0, 4), (6, 2), (6, 3), (6, 5), (12, 0)] L h u.1 u.2) (hx_E T_tb (P_ty dA) (dC, dI) vwCl (hx_A L sz)) (hx_A L sz)) ([.ref x, .int (5 : Int32)] : List Value).toArray s 0 0 (hx_A L sz)) (F0 m 7 ls []) := by
    intro n7
    induction n7 with
    | zero => intro iv7_2 iv7_3 iv7_4 H locs hL1 hl1 bliv7_2 buiv7_2 bliv7_3 buiv7_3 bliv7_4 buiv7_4  ls hn7; exfalso; omega
    | succ n7 ih7 =>
      intro iv7_2 iv7_3 iv7_4 H locs hL1 hl1 bliv7_2 buiv7_2 bliv7_3 buiv7_3 bliv7_4 buiv7_4  ls hn7 hW hT hM   hl
      refine lv_iload hx hb dX6_readEither_7 (lv_at hl 0 rfl) ?_
      refine lv_aload_n hx hb dX6_readEither_9 rfl (lv_at hl 3 rfl) ?_
      refine hx_geti hx hb hts hC_6 hown hW hT (gx.S hM) tt_6 1 (by decide) rfl kw_126 ⟨rfl, rfl, rfl⟩ dX6_readEither_10 (fun x_1 ex_1 lx_1 ux_1 => ?_)
      have fx_1 := ex_1.symm
      refine hb_icmp_gt (zx := iv7_4.toInt) (zy := x_1.toInt) (tgt := 102) hx hb rfl rfl dX6_readEither_13 (by decide) (fun c_2 => ?_) (fun c_2 => ?_)
      · skip
        refine lv_iconst (v := 0) hx hb dX6_readEither_102 (by decide) ?_
        exact hx_retz hx hb hr rfl hlk hW ⟨(by decide), hT, hM⟩ dX6_readEither_103
      · skip
        refine lv_aload_n hx hb dX6_readEither_16 rfl (lv_at hl 3 rfl) ?_
        refine lv_iload_n hx hb dX6_readEither_17 rfl (lv_at hl 4 rfl) ?_
        have zc_5 : (5 : Int32).toInt = 5 := by decide
        refine hx_goi (hx_runVX (As := [.int (5 : Int32)]) (rest := []) ⟨hx, hb, hml, hown, hts⟩ hW (gx.S hM) tt_6 (T := TX6) (N := 7) rfl (t_X6_readOne_5 l dC dI dA hL1 hl1 H.size b0 x hT (gx.S hM) qt (gqt.S hM) ((hM.o gx trivial rfl).2.trans f_x_0) qi (gqi.S hM) ((hM.o gx trivial rfl).2.trans f_x_6)) hZ (cwV 1 hts (hx_gV kw_560 kw_557 kw_559 kw_13 kw_95) rfl rfl rfl (by decide +kernel) ⟨Nat.le_of_ble_eq_true rfl, Nat.le_of_ble_eq_true rfl⟩) rfl hl.1 rfl (Nat.le_of_ble_eq_true rfl) dX6_readEither_18 ⟨Nat.le_of_ble_eq_true rfl, Nat.le_of_ble_eq_true rfl⟩) hW (fun r_5 L_3 h_4 H locs p_6 hW => ?_)
        obtain ⟨hr_7, hT, hs⟩ := p_6
        replace hT : hx_T T_tb L_3 h_4 := hT
        replace hs : hx_S T_tb [(0, 4), (6, 2), (6, 3), (6, 5), (12, 0)] hL1 hl1 L_3 h_4 := hs
        replace fx_1 := (hs.o (gx.S hM) trivial rfl).1.trans fx_1
        replace hM := hM.tr (hs.mono (by decide))
        refine hb_if_eq (zx := r_5.toInt) (tgt := 102) hx hb rfl dX6_readEither_21 (by decide) (fun c_8 => ?_) (fun c_8 => ?_)
        · skip
          refine lv_iconst (v := 0) hx hb dX6_readEither_102 (by decide) ?_
          exact hx_retz hx hb hr rfl hlk hW ⟨(by decide), hT, hM⟩ dX6_readEither_103
        · skip
          refine lv_iload_n hx hb dX6_readEither_24 rfl (lv_at hl 2 rfl) ?_
          refine hb_if_eq (zx := iv7_2.toInt) (tgt := 36) hx hb rfl dX6_readEither_25 (by decide) (fun c_9 => ?_) (fun c_9 => ?_)
          · skip
            refine lv_aload_n hx hb dX6_readEither_36 rfl (lv_at hl 3 rfl) ?_
            refine va_ldcS (tx := P_st.getD 2 "") hx hb hown (zVR 2 (by decide)) dX6_readEither_37 ?_
            refine hx_goi (hx_runVX (As := [.ref (b0.2.2.2.1 2)]) (rest := []) ⟨hx, hb, hml, hown, hts⟩ hW (gx.S hM) tt_6 (T := TX6) (N := 7) rfl (t_X6_isNextWord l dC dI dA L_3 h_4 H.size b0 x 2 hT (gx.S hM) (by decide) qt (gqt.S hM) ((hM.o gx trivial rfl).2.trans f_x_0)) hZ (cwV 1 hts (hx_gV kw_565 kw_562 kw_564 kw_14 kw_95) rfl rfl rfl (by decide +kernel) ⟨Nat.le_of_ble_eq_true rfl, Nat.le_of_ble_eq_true rfl⟩) rfl hl.1 rfl (Nat.le_of_ble_eq_true rfl) dX6_readEither_39 ⟨Nat.le_of_ble_eq_true rfl, Nat.le_of_ble_eq_true rfl⟩) hW (fun r_12 L_10 h_11 H locs p_13 hW => ?_)
            obtain ⟨⟨w_15, fw_15, hr_14⟩, hT, hs⟩ := p_13
            replace hT : hx_T T_tb L_10 h_11 := hT
            replace hs : hx_S T_tb [(6, 2)] L_3 h_4 L_10 h_11 := hs
            replace fx_1 := (hs.o (gx.S hM) trivial rfl).1.trans fx_1
            replace hM := hM.tr (hs.mono (by decide))
            have fw_15 : h_11.2.1 x 2 = w_15 := fw_15
            have bw_15 := hT.gi (gx.S hM) tt_6 (k := 2) rfl
            rw [fw_15] at bw_15
            have bw_15 : 0 ≤ w_15.toInt ∧ w_15.toInt ≤ 402 := bw_15
            refine lv_istore_n (lv' := [(2, .int r_12), (4, .int iv7_4), (3, .int iv7_3), (0, .ref x), (1, .int (5 : Int32))]) hx hb dX6_readEither_42 rfl hl (by decide) rfl (fun ls hl => ?_)
            refine lv_iload_n hx hb dX6_readEither_43 rfl (lv_at hl 0 rfl) ?_
            refine hb_if_eq (zx := r_12.toInt) (tgt := 60) hx hb rfl dX6_readEither_44 (by decide) (fun c_16 => ?_) (fun c_16 => ?_)
            · skip
              refine lv_iload_n hx hb dX6_readEither_60 rfl (lv_at hl 2 rfl) ?_
              refine hb_if_eq (zx := iv7_3.toInt) (tgt := 73) hx hb rfl dX6_readEither_61 (by decide) (fun c_17 => ?_) (fun c_17 => ?_)
              · skip
                refine lv_aload_n hx hb dX6_readEither_73 rfl (lv_at hl 3 rfl) ?_
                refine va_ldcS (tx := P_st.getD 3 "") hx hb hown (zVR 3 (by decide)) dX6_readEither_74 ?_
                refine hx_goi (hx_runVX (As := [.ref (b0.2.2.2.1 3)]) (rest := []) ⟨hx, hb, hml, hown, hts⟩ hW (gx.S hM) tt_6 (T := TX6) (N := 7) rfl (t_X6_isNextWord l dC dI dA L_10 h_11 H.size b0 x 3 hT (gx.S hM) (by decide) qt (gqt.S hM) ((hM.o gx trivial rfl).2.trans f_x_0)) hZ (cwV 1 hts (hx_gV kw_565 kw_562 kw_564 kw_14 kw_95) rfl rfl rfl (by decide +kernel) ⟨Nat.le_of_ble_eq_true rfl, Nat.le_of_ble_eq_true rfl⟩) rfl hl.1 rfl (Nat.le_of_ble_eq_true rfl) dX6_readEither_76 ⟨Nat.le_of_ble_eq_true rfl, Nat.le_of_ble_eq_true rfl⟩) hW (fun r_20 L_18 h_19 H locs p_21 hW => ?_)
                obtain ⟨⟨w_23, fw_23, hr_22⟩, hT, hs⟩ := p_21
                replace hT : hx_T T_tb L_18 h_19 := hT
                replace hs : hx_S T_tb [(6, 2)] L_10 h_11 L_18 h_19 := hs
                replace fx_1 := (hs.o (gx.S hM) trivial rfl).1.trans fx_1
                replace hM := hM.tr (hs.mono (by decide))
                have fw_23 : h_19.2.1 x 2 = w_23 := fw_23
                have bw_23 := hT.gi (gx.S hM) tt_6 (k := 2) rfl
                rw [fw_23] at bw_23
                have bw_23 : 0 ≤ w_23.toInt ∧ w_23.toInt ≤ 402 := bw_23
                refine lv_istore_n (lv' := [(3, .int r_20), (2, .int r_12), (4, .int iv7_4), (0, .ref x), (1, .int (5 : Int32))]) hx hb dX6_readEither_79 rfl hl (by decide) rfl (fun ls hl => ?_)
                refine lv_iload_n hx hb dX6_readEither_80 rfl (lv_at hl 0 rfl) ?_
                refine hb_if_ne (zx := r_20.toInt) (tgt := 86) hx hb rfl dX6_readEither_81 (by decide) (fun c_24 => ?_) (fun c_24 => ?_)
                · skip
                  refine lv_aload_n hx hb dX6_readEither_86 rfl (lv_at hl 3 rfl) ?_
                  refine lv_dup hx hb dX6_readEither_87 rfl ?_
                  refine hk_geti hx hb hts hC_6 hown hW (gx.S hM) tt_6 2 (by decide) rfl kw_127 ⟨rfl, rfl, rfl⟩ fw_23 dX6_readEither_88 ?_
                  refine lv_iconst (v := 2) hx hb dX6_readEither_91 (by decide) ?_
                  refine lv_iadd hx hb dX6_readEither_92 ?_
                  have rg_25 := i32_r w_23
                  refine lv_topi (fun x_26 ex_26 => ?_)
                  have zx_26 : x_26.toInt = w_23.toInt + 2 := by rw [ex_26]; exact i32_add rfl (by decide) (by omega) (by omega)
                  refine hx_puti hx hb hts hC_6 hown hW hT (hx_S.rf (M := [(6, 2)])) (gx.S hM) tt_6 2 (by decide) rfl kw_127 ⟨rfl, rfl, rfl⟩ rfl (x := x_26) ⟨by omega, by omega⟩ rfl rfl rfl (List.mem_singleton.mpr rfl) dX6_readEither_93 (fun H locs h_27 eh_27 hW hT hs => ?_)
                  replace fx_1 := (hs.o (gx.S hM) trivial rfl).1.trans fx_1
                  replace hM := hM.tr (hs.mono (by decide))
                  have f_28 : h_27.2.1 x 2 = x_26 := by rw [eh_27]; exact hx_pi_at _ _ _ _
                  obtain ⟨x_29, ex_29⟩ : ∃ y : Int32, y = iv7_4 + Int32.ofInt 1 := ⟨_, rfl⟩
                  have rg_30 := i32_r iv7_4
                  have zx_29 : x_29.toInt = iv7_4.toInt + (1) := by rw [ex_29]; exact i32_add rfl (by decide) (by omega) (by omega)
                  refine lv_iinc (v := x_29) (lv' := [(4, .int x_29), (3, .int r_20), (2, .int r_12), (0, .ref x), (1, .int (5 : Int32))]) hx hb dX6_readEither_96 hl (k := 2) rfl ex_29.symm (by decide) rfl (fun ls hl => ?_)
                  refine lv_goto (tgt := 7) hx hb dX6_readEither_99 (by decide) ?_
                  exact ih7 r_12 r_20 x_29 _ _ L_18 h_27 (by omega) (by omega) (by omega) (by omega) (by omega) (by omega)  ls (by omega) hW hT hM   (lv_sub hl [0, 1, 2, 3, 4] rfl)
                · skip
                  refine lv_iconst (v := 1) hx hb dX6_readEither_84 (by decide) ?_
                  exact hx_retz hx hb hr rfl hlk hW ⟨(by decide), hT, hM⟩ dX6_readEither_85
              · skip
                refine lv_aload_n hx hb dX6_readEither_64 rfl (lv_at hl 3 rfl) ?_
                refine hk_getr hx hb hts hC_6 hown hW (gx.S hM) tt_6 6 (by decide) rfl kw_131 ⟨rfl, rfl, rfl⟩ ((hM.o gx trivial rfl).2.trans f_x_6) dX6_readEither_65 ?_
                refine lv_bipush (v := -2) hx hb dX6_readEither_68 (by decide) ?_
                have zc_m2 : (-2 : Int32).toInt = -2 := by decide
                refine hx_gov (hx_runV (As := [.int (-2 : Int32)]) (rest := []) ⟨hx, hb, hml, hown, hts⟩ hW (gqi.S hM) tt_0 (T := TX0) (N := 5) rfl (t_X0_addProof l dC dI dA L_10 h_11 H.size qi (-2 : Int32) hT (gqi.S hM)) (cwV 1 hts (hx_gV kw_583 kw_580 kw_581 kw_582 kw_96) rfl rfl rfl (by decide +kernel) ⟨Nat.le_of_ble_eq_true rfl, Nat.le_of_ble_eq_true rfl⟩) rfl hl.1 rfl (Nat.le_of_ble_eq_true rfl) dX6_readEither_70 ⟨Nat.le_of_ble_eq_true rfl, Nat.le_of_ble_eq_true rfl⟩) hW (fun L_31 h_32 H locs p_34 hW => ?_)
                obtain ⟨hT, hs⟩ := p_34
                replace hT : hx_T T_tb L_31 h_32 := hT
                replace hs : hx_S T_tb [(0, 4), (12, 0)] L_10 h_11 L_31 h_32 := hs
                replace fx_1 := (hs.o (gx.S hM) trivial rfl).1.trans fx_1
                replace fw_15 := (hs.o (gx.S hM) trivial rfl).1.trans fw_15
                replace hM := hM.tr (hs.mono (by decide))
                refine lv_aload_n hx hb dX6_readEither_73 rfl (lv_at hl 3 rfl) ?_
                refine va_ldcS (tx := P_st.getD 3 "") hx hb hown (zVR 3 (by decide)) dX6_readEither_74 ?_
                refine hx_goi (hx_runVX (As := [.ref (b0.2.2.2.1 3)]) (rest := []) ⟨hx, hb, hml, hown, hts⟩ hW (gx.S hM) tt_6 (T := TX6) (N := 7) rfl (t_X6_isNextWord l dC dI dA L_31 h_32 H.size b0 x 3 hT (gx.S hM) (by decide) qt (gqt.S hM) ((hM.o gx trivial rfl).2.trans f_x_0)) hZ (cwV 1 hts (hx_gV kw_565 kw_562 kw_564 kw_14 kw_95) rfl rfl rfl (by decide +kernel) ⟨Nat.le_of_ble_eq_true rfl, Nat.le_of_ble_eq_true rfl⟩) rfl hl.1 rfl (Nat.le_of_ble_eq_true rfl) dX6_readEither_76 ⟨Nat.le_of_ble_eq_true rfl, Nat.le_of_ble_eq_true rfl⟩) hW (fun r_38 L_36 h_37 H locs p_39 hW => ?_)
                obtain ⟨⟨w_41, fw_41, hr_40⟩, hT, hs⟩ := p_39
                replace hT : hx_T T_tb L_36 h_37 := hT
                replace hs : hx_S T_tb [(6, 2)] L_31 h_32 L_36 h_37 := hs
                replace fx_1 := (hs.o (gx.S hM) trivial rfl).1.trans fx_1
                replace hM := hM.tr (hs.mono (by decide))
                have fw_41 : h_37.2.1 x 2 = w_41 := fw_41
                have bw_41 := hT.gi (gx.S hM) tt_6 (k := 2) rfl
                rw [fw_41] at bw_41
                have bw_41 : 0 ≤ w_41.toInt ∧ w_41.toInt ≤ 402 := bw_41
                refine lv_istore_n (lv' := [(3, .int r_38), (2, .int r_12), (4, .int iv7_4), (0, .ref x), (1, .int (5 : Int32))]) hx hb dX6_readEither_79 rfl hl (by decide) rfl (fun ls hl => ?_)
                refine lv_iload_n hx hb dX6_readEither_80 rfl (lv_at hl 0 rfl) ?_
                refine hb_if_ne (zx := r_38.toInt) (tgt := 86) hx hb rfl dX6_readEither_81 (by decide) (fun c_42 => ?_) (fun c_42 => ?_)
                · skip
                  refine lv_aload_n hx hb dX6_readEither_86 rfl (lv_at hl 3 rfl) ?_
                  refine lv_dup hx hb dX6_readEither_87 rfl ?_
                  refine hk_geti hx hb hts hC_6 hown hW (gx.S hM) tt_6 2 (by decide) rfl kw_127 ⟨rfl, rfl, rfl⟩ fw_41 dX6_readEither_88 ?_
                  refine lv_iconst (v := 2) hx hb dX6_readEither_91 (by decide) ?_
                  refine lv_iadd hx hb dX6_readEither_92 ?_
                  have rg_43 := i32_r w_41
                  refine lv_topi (fun x_44 ex_44 => ?_)
                  have zx_44 : x_44.toInt = w_41.toInt + 2 := by rw [ex_44]; exact i32_add rfl (by decide) (by omega) (by omega)
                  refine hx_puti hx hb hts hC_6 hown hW hT (hx_S.rf (M := [(6, 2)])) (gx.S hM) tt_6 2 (by decide) rfl kw_127 ⟨rfl, rfl, rfl⟩ rfl (x := x_44) ⟨by omega, by omega⟩ rfl rfl rfl (List.mem_singleton.mpr rfl) dX6_readEither_93 (fun H locs h_45 eh_45 hW hT hs => ?_)
                  replace fx_1 := (hs.o (gx.S hM) trivial rfl).1.trans fx_1
                  replace hM := hM.tr (hs.mono (by decide))
                  have f_46 : h_45.2.1 x 2 = x_44 := by rw [eh_45]; exact hx_pi_at _ _ _ _
                  obtain ⟨x_47, ex_47⟩ : ∃ y : Int32, y = iv7_4 + Int32.ofInt 1 := ⟨_, rfl⟩
                  have rg_48 := i32_r iv7_4
                  have zx_47 : x_47.toInt = iv7_4.toInt + (1) := by rw [ex_47]; exact i32_add rfl (by decide) (by omega) (by omega)
                  refine lv_iinc (v := x_47) (lv' := [(4, .int x_47), (3, .int r_38), (2, .int r_12), (0, .ref x), (1, .int (5 : Int32))]) hx hb dX6_readEither_96 hl (k := 2) rfl ex_47.symm (by decide) rfl (fun ls hl => ?_)
                  refine lv_goto (tgt := 7) hx hb dX6_readEither_99 (by decide) ?_
                  exact ih7 r_12 r_38 x_47 _ _ L_36 h_45 (by omega) (by omega) (by omega) (by omega) (by omega) (by omega)  ls (by omega) hW hT hM   (lv_sub hl [0, 1, 2, 3, 4] rfl)
                · skip
                  refine lv_iconst (v := 1) hx hb dX6_readEither_84 (by decide) ?_
                  exact hx_retz hx hb hr rfl hlk hW ⟨(by decide), hT, hM⟩ dX6_readEither_85
            · skip
              refine lv_aload_n hx hb dX6_readEither_47 rfl (lv_at hl 3 rfl) ?_
              refine lv_dup hx hb dX6_readEither_48 rfl ?_
              refine hk_geti hx hb hts hC_6 hown hW (gx.S hM) tt_6 2 (by decide) rfl kw_127 ⟨rfl, rfl, rfl⟩ fw_15 dX6_readEither_49 ?_
              refine lv_iconst (v := 3) hx hb dX6_readEither_52 (by decide) ?_
              refine lv_iadd hx hb dX6_readEither_53 ?_
              have rg_49 := i32_r w_15
              refine lv_topi (fun x_50 ex_50 => ?_)
              have zx_50 : x_50.toInt = w_15.toInt + 3 := by rw [ex_50]; exact i32_add rfl (by decide) (by omega) (by omega)
              refine hx_puti hx hb hts hC_6 hown hW hT (hx_S.rf (M := [(6, 2)])) (gx.S hM) tt_6 2 (by decide) rfl kw_127 ⟨rfl, rfl, rfl⟩ rfl (x := x_50) ⟨by omega, by omega⟩ rfl rfl rfl (List.mem_singleton.mpr rfl) dX6_readEither_54 (fun H locs h_51 eh_51 hW hT hs => ?_)
              replace fx_1 := (hs.o (gx.S hM) trivial rfl).1.trans fx_1
              replace hM := hM.tr (hs.mono (by decide))
              have f_52 : h_51.2.1 x 2 = x_50 := by rw [eh_51]; exact hx_pi_at _ _ _ _
              refine lv_goto (tgt := 96) hx hb dX6_readEither_57 (by decide) ?_
              obtain ⟨x_53, ex_53⟩ : ∃ y : Int32, y = iv7_4 + Int32.ofInt 1 := ⟨_, rfl⟩
              have rg_54 := i32_r iv7_4
              have zx_53 : x_53.toInt = iv7_4.toInt + (1) := by rw [ex_53]; exact i32_add rfl (by decide) (by omega) (by omega)
              refine lv_iinc (v := x_53) (lv' := [(4, .int x_53), (2, .int r_12), (3, .int iv7_3), (0, .ref x), (1, .int (5 : Int32))]) hx hb dX6_readEither_96 hl (k := 1) rfl ex_53.symm (by decide) rfl (fun ls hl => ?_)
              refine lv_goto (tgt := 7) hx hb dX6_readEither_99 (by decide) ?_
              exact ih7 r_12 iv7_3 x_53 _ _ L_10 h_51 (by omega) (by omega) (by omega) (by omega) (by omega) (by omega)  ls (by omega) hW hT hM   (lv_sub hl [0, 2, 1, 3, 4] rfl)
          · skip
            refine lv_aload_n hx hb dX6_readEither_28 rfl (lv_at hl 3 rfl) ?_
            refine hk_getr hx hb hts hC_6 hown hW (gx.S hM) tt_6 6 (by decide) rfl kw_131 ⟨rfl, rfl, rfl⟩ ((hM.o gx trivial rfl).2.trans f_x_6) dX6_readEither_29 ?_
            refine lv_iconst (v := -1) hx hb dX6_readEither_32 (by decide) ?_
            have zc_m1 : (-1 : Int32).toInt = -1 := by decide
            refine hx_gov (hx_runV (As := [.int (-1 : Int32)]) (rest := []) ⟨hx, hb, hml, hown, hts⟩ hW (gqi.S hM) tt_0 (T := TX0) (N := 5) rfl (t_X0_addProof l dC dI dA L_3 h_4 H.size qi (-1 : Int32) hT (gqi.S hM)) (cwV 1 hts (hx_gV kw_583 kw_580 kw_581 kw_582 kw_96) rfl rfl rfl (by decide +kernel) ⟨Nat.le_of_ble_eq_true rfl, Nat.le_of_ble_eq_true rfl⟩) rfl hl.1 rfl (Nat.le_of_ble_eq_true rfl) dX6_readEither_33 ⟨Nat.le_of_ble_eq_true rfl, Nat.le_of_ble_eq_true rfl⟩) hW (fun L_55 h_56 H locs p_58 hW => ?_)
            obtain ⟨hT, hs⟩ := p_58
            replace hT : hx_T T_tb L_55 h_56 := hT
            replace hs : hx_S T_tb [(0, 4), (12, 0)] L_3 h_4 L_55 h_56 := hs
            replace fx_1 := (hs.o (gx.S hM) trivial rfl).1.trans fx_1
            replace hM := hM.tr (hs.mono (by decide))
            refine lv_aload_n hx hb dX6_readEither_36 rfl (lv_at hl 3 rfl) ?_
            refine va_ldcS (tx := P_st.getD 2 "") hx hb hown (zVR 2 (by decide)) dX6_readEither_37 ?_
            refine hx_goi (hx_runVX (As := [.ref (b0.2.2.2.1 2)]) (rest := []) ⟨hx, hb, hml, hown, hts⟩ hW (gx.S hM) tt_6 (T := TX6) (N := 7) rfl (t_X6_isNextWord l dC dI dA L_55 h_56 H.size b0 x 2 hT (gx.S hM) (by decide) qt (gqt.S hM) ((hM.o gx trivial rfl).2.trans f_x_0)) hZ (cwV 1 hts (hx_gV kw_565 kw_562 kw_564 kw_14 kw_95) rfl rfl rfl (by decide +kernel) ⟨Nat.le_of_ble_eq_true rfl, Nat.le_of_ble_eq_true rfl⟩) rfl hl.1 rfl (Nat.le_of_ble_eq_true rfl) dX6_readEither_39 ⟨Nat.le_of_ble_eq_true rfl, Nat.le_of_ble_eq_true rfl⟩) hW (fun r_62 L_60 h_61 H locs p_63 hW => ?_)
            obtain ⟨⟨w_65, fw_65, hr_64⟩, hT, hs⟩ := p_63
            replace hT : hx_T T_tb L_60 h_61 := hT
            replace hs : hx_S T_tb [(6, 2)] L_55 h_56 L_60 h_61 := hs
            replace fx_1 := (hs.o (gx.S hM) trivial rfl).1.trans fx_1
            replace hM := hM.tr (hs.mono (by decide))
            have fw_65 : h_61.2.1 x 2 = w_65 := fw_65
            have bw_65 := hT.gi (gx.S hM) tt_6 (k := 2) rfl
            rw [fw_65] at bw_65
            have bw_65 : 0 ≤ w_65.toInt ∧ w_65.toInt ≤ 402 := bw_65
            refine lv_istore_n (lv' := [(2, .int r_62), (4, .int iv7_4), (3, .int iv7_3), (0, .ref x), (1, .int (5 : Int32))]) hx hb dX6_readEither_42 rfl hl (by decide) rfl (fun ls hl => ?_)
            refine lv_iload_n hx hb dX6_readEither_43 rfl (lv_at hl 0 rfl) ?_
            refine hb_if_eq (zx := r_62.toInt) (tgt := 60) hx hb rfl dX6_readEither_44 (by decide) (fun c_66 => ?_) (fun c_66 => ?_)
            · skip
              refine lv_iload_n hx hb dX6_readEither_60 rfl (lv_at hl 2 rfl) ?_
              refine hb_if_eq (zx := iv7_3.toInt) (tgt := 73) hx hb rfl dX6_readEither_61 (by decide) (fun c_67 => ?_) (fun c_67 => ?_)
              · skip
                refine lv_aload_n hx hb dX6_readEither_73 rfl (lv_at hl 3 rfl) ?_
                refine va_ldcS (tx := P_st.getD 3 "") hx hb hown (zVR 3 (by decide)) dX6_readEither_74 ?_
                refine hx_goi (hx_runVX (As := [.ref (b0.2.2.2.1 3)]) (rest := []) ⟨hx, hb, hml, hown, hts⟩ hW (gx.S hM) tt_6 (T := TX6) (N := 7) rfl (t_X6_isNextWord l dC dI dA L_60 h_61 H.size b0 x 3 hT (gx.S hM) (by decide) qt (gqt.S hM) ((hM.o gx trivial rfl).2.trans f_x_0)) hZ (cwV 1 hts (hx_gV kw_565 kw_562 kw_564 kw_14 kw_95) rfl rfl rfl (by decide +kernel) ⟨Nat.le_of_ble_eq_true rfl, Nat.le_of_ble_eq_true rfl⟩) rfl hl.1 rfl (Nat.le_of_ble_eq_true rfl) dX6_readEither_76 ⟨Nat.le_of_ble_eq_true rfl, Nat.le_of_ble_eq_true rfl⟩) hW (fun r_70 L_68 h_69 H locs p_71 hW => ?_)
                obtain ⟨⟨w_73, fw_73, hr_72⟩, hT, hs⟩ := p_71
                replace hT : hx_T T_tb L_68 h_69 := hT
                replace hs : hx_S T_tb [(6, 2)] L_60 h_61 L_68 h_69 := hs
                replace fx_1 := (hs.o (gx.S hM) trivial rfl).1.trans fx_1
                replace hM := hM.tr (hs.mono (by decide))
                have fw_73 : h_69.2.1 x 2 = w_73 := fw_73
                have bw_73 := hT.gi (gx.S hM) tt_6 (k := 2) rfl
                rw [fw_73] at bw_73
                have bw_73 : 0 ≤ w_73.toInt ∧ w_73.toInt ≤ 402 := bw_73
                refine lv_istore_n (lv' := [(3, .int r_70), (2, .int r_62), (4, .int iv7_4), (0, .ref x), (1, .int (5 : Int32))]) hx hb dX6_readEither_79 rfl hl (by decide) rfl (fun ls hl => ?_)
                refine lv_iload_n hx hb dX6_readEither_80 rfl (lv_at hl 0 rfl) ?_
                refine hb_if_ne (zx := r_70.toInt) (tgt := 86) hx hb rfl dX6_readEither_81 (by decide) (fun c_74 => ?_) (fun c_74 => ?_)
                · skip
                  refine lv_aload_n hx hb dX6_readEither_86 rfl (lv_at hl 3 rfl) ?_
                  refine lv_dup hx hb dX6_readEither_87 rfl ?_
                  refine hk_geti hx hb hts hC_6 hown hW (gx.S hM) tt_6 2 (by decide) rfl kw_127 ⟨rfl, rfl, rfl⟩ fw_73 dX6_readEither_88 ?_
                  refine lv_iconst (v := 2) hx hb dX6_readEither_91 (by decide) ?_
                  refine lv_iadd hx hb dX6_readEither_92 ?_
                  have rg_75 := i32_r w_73
                  refine lv_topi (fun x_76 ex_76 => ?_)
                  have zx_76 : x_76.toInt = w_73.toInt + 2 := by rw [ex_76]; exact i32_add rfl (by decide) (by omega) (by omega)
                  refine hx_puti hx hb hts hC_6 hown hW hT (hx_S.rf (M := [(6, 2)])) (gx.S hM) tt_6 2 (by decide) rfl kw_127 ⟨rfl, rfl, rfl⟩ rfl (x := x_76) ⟨by omega, by omega⟩ rfl rfl rfl (List.mem_singleton.mpr rfl) dX6_readEither_93 (fun H locs h_77 eh_77 hW hT hs => ?_)
                  replace fx_1 := (hs.o (gx.S hM) trivial rfl).1.trans fx_1
                  replace hM := hM.tr (hs.mono (by decide))
                  have f_78 : h_77.2.1 x 2 = x_76 := by rw [eh_77]; exact hx_pi_at _ _ _ _
                  obtain ⟨x_79, ex_79⟩ : ∃ y : Int32, y = iv7_4 + Int32.ofInt 1 := ⟨_, rfl⟩
                  have rg_80 := i32_r iv7_4
                  have zx_79 : x_79.toInt = iv7_4.toInt + (1) := by rw [ex_79]; exact i32_add rfl (by decide) (by omega) (by omega)
                  refine lv_iinc (v := x_79) (lv' := [(4, .int x_79), (3, .int r_70), (2, .int r_62), (0, .ref x), (1, .int (5 : Int32))]) hx hb dX6_readEither_96 hl (k := 2) rfl ex_79.symm (by decide) rfl (fun ls hl => ?_)
                  refine lv_goto (tgt := 7) hx hb dX6_readEither_99 (by decide) ?_
                  exact ih7 r_62 r_70 x_79 _ _ L_68 h_77 (by omega) (by omega) (by omega) (by omega) (by omega) (by omega)  ls (by omega) hW hT hM   (lv_sub hl [0, 1, 2, 3, 4] rfl)
                · skip
                  refine lv_iconst (v := 1) hx hb dX6_readEither_84 (by decide) ?_
                  exact hx_retz hx hb hr rfl hlk hW ⟨(by decide), hT, hM⟩ dX6_readEither_85
              · skip
                refine lv_aload_n hx hb dX6_readEither_64 rfl (lv_at hl 3 rfl) ?_
                refine hk_getr hx hb hts hC_6 hown hW (gx.S hM) tt_6 6 (by decide) rfl kw_131 ⟨rfl, rfl, rfl⟩ ((hM.o gx trivial rfl).2.trans f_x_6) dX6_readEither_65 ?_
                refine lv_bipush (v := -2) hx hb dX6_readEither_68 (by decide) ?_
                have zc_m2 : (-2 : Int32).toInt = -2 := by decide
                refine hx_gov (hx_runV (As := [.int (-2 : Int32)]) (rest := []) ⟨hx, hb, hml, hown, hts⟩ hW (gqi.S hM) tt_0 (T := TX0) (N := 5) rfl (t_X0_addProof l dC dI dA L_60 h_61 H.size qi (-2 : Int32) hT (gqi.S hM)) (cwV 1 hts (hx_gV kw_583 kw_580 kw_581 kw_582 kw_96) rfl rfl rfl (by decide +kernel) ⟨Nat.le_of_ble_eq_true rfl, Nat.le_of_ble_eq_true rfl⟩) rfl hl.1 rfl (Nat.le_of_ble_eq_true rfl) dX6_readEither_70 ⟨Nat.le_of_ble_eq_true rfl, Nat.le_of_ble_eq_true rfl⟩) hW (fun L_81 h_82 H locs p_84 hW => ?_)
                obtain ⟨hT, hs⟩ := p_84
                replace hT : hx_T T_tb L_81 h_82 := hT
                replace hs : hx_S T_tb [(0, 4), (12, 0)] L_60 h_61 L_81 h_82 := hs
                replace fx_1 := (hs.o (gx.S hM) trivial rfl).1.trans fx_1
                replace fw_65 := (hs.o (gx.S hM) trivial rfl).1.trans fw_65
                replace hM := hM.tr (hs.mono (by decide))
                refine lv_aload_n hx hb dX6_readEither_73 rfl (lv_at hl 3 rfl) ?_
                refine va_ldcS (tx := P_st.getD 3 "") hx hb hown (zVR 3 (by decide)) dX6_readEither_74 ?_
                refine hx_goi (hx_runVX (As := [.ref (b0.2.2.2.1 3)]) (rest := []) ⟨hx, hb, hml, hown, hts⟩ hW (gx.S hM) tt_6 (T := TX6) (N := 7) rfl (t_X6_isNextWord l dC dI dA L_81 h_82 H.size b0 x 3 hT (gx.S hM) (by decide) qt (gqt.S hM) ((hM.o gx trivial rfl).2.trans f_x_0)) hZ (cwV 1 hts (hx_gV kw_565 kw_562 kw_564 kw_14 kw_95) rfl rfl rfl (by decide +kernel) ⟨Nat.le_of_ble_eq_true rfl, Nat.le_of_ble_eq_true rfl⟩) rfl hl.1 rfl (Nat.le_of_ble_eq_true rfl) dX6_readEither_76 ⟨Nat.le_of_ble_eq_true rfl, Nat.le_of_ble_eq_true rfl⟩) hW (fun r_88 L_86 h_87 H locs p_89 hW => ?_)
                obtain ⟨⟨w_91, fw_91, hr_90⟩, hT, hs⟩ := p_89
                replace hT : hx_T T_tb L_86 h_87 := hT
                replace hs : hx_S T_tb [(6, 2)] L_81 h_82 L_86 h_87 := hs
                replace fx_1 := (hs.o (gx.S hM) trivial rfl).1.trans fx_1
                replace hM := hM.tr (hs.mono (by decide))
                have fw_91 : h_87.2.1 x 2 = w_91 := fw_91
                have bw_91 := hT.gi (gx.S hM) tt_6 (k := 2) rfl
                rw [fw_91] at bw_91
                have bw_91 : 0 ≤ w_91.toInt ∧ w_91.toInt ≤ 402 := bw_91
                refine lv_istore_n (lv' := [(3, .int r_88), (2, .int r_62), (4, .int iv7_4), (0, .ref x), (1, .int (5 : Int32))]) hx hb dX6_readEither_79 rfl hl (by decide) rfl (fun ls hl => ?_)
                refine lv_iload_n hx hb dX6_readEither_80 rfl (lv_at hl 0 rfl) ?_
                refine hb_if_ne (zx := r_88.toInt) (tgt := 86) hx hb rfl dX6_readEither_81 (by decide) (fun c_92 => ?_) (fun c_92 => ?_)
                · skip
                  refine lv_aload_n hx hb dX6_readEither_86 rfl (lv_at hl 3 rfl) ?_
                  refine lv_dup hx hb dX6_readEither_87 rfl ?_
                  refine hk_geti hx hb hts hC_6 hown hW (gx.S hM) tt_6 2 (by decide) rfl kw_127 ⟨rfl, rfl, rfl⟩ fw_91 dX6_readEither_88 ?_
                  refine lv_iconst (v := 2) hx hb dX6_readEither_91 (by decide) ?_
                  refine lv_iadd hx hb dX6_readEither_92 ?_
                  have rg_93 := i32_r w_91
                  refine lv_topi (fun x_94 ex_94 => ?_)
                  have zx_94 : x_94.toInt = w_91.toInt + 2 := by rw [ex_94]; exact i32_add rfl (by decide) (by omega) (by omega)
                  refine hx_puti hx hb hts hC_6 hown hW hT (hx_S.rf (M := [(6, 2)])) (gx.S hM) tt_6 2 (by decide) rfl kw_127 ⟨rfl, rfl, rfl⟩ rfl (x := x_94) ⟨by omega, by omega⟩ rfl rfl rfl (List.mem_singleton.mpr rfl) dX6_readEither_93 (fun H locs h_95 eh_95 hW hT hs => ?_)
                  replace fx_1 := (hs.o (gx.S hM) trivial rfl).1.trans fx_1
                  replace hM := hM.tr (hs.mono (by decide))
                  have f_96 : h_95.2.1 x 2 = x_94 := by rw [eh_95]; exact hx_pi_at _ _ _ _
                  obtain ⟨x_97, ex_97⟩ : ∃ y : Int32, y = iv7_4 + Int32.ofInt 1 := ⟨_, rfl⟩
                  have rg_98 := i32_r iv7_4
                  have zx_97 : x_97.toInt = iv7_4.toInt + (1) := by rw [ex_97]; exact i32_add rfl (by decide) (by omega) (by omega)
                  refine lv_iinc (v := x_97) (lv' := [(4, .int x_97), (3, .int r_88), (2, .int r_62), (0, .ref x), (1, .int (5 : Int32))]) hx hb dX6_readEither_96 hl (k := 2) rfl ex_97.symm (by decide) rfl (fun ls hl => ?_)
                  refine lv_goto (tgt := 7) hx hb dX6_readEither_99 (by decide) ?_
                  exact ih7 r_62 r_88 x_97 _ _ L_86 h_95 (by omega) (by omega) (by omega) (by omega) (by omega) (by omega)  ls (by omega) hW hT hM   (lv_sub hl [0, 1, 2, 3, 4] rfl)
                · skip
                  refine lv_iconst (v := 1) hx hb dX6_readEither_84 (by decide) ?_
                  exact hx_retz hx hb hr rfl hlk hW ⟨(by decide), hT, hM⟩ dX6_readEither_85
            · skip
              refine lv_aload_n hx hb dX6_readEither_47 rfl (lv_at hl 3 rfl) ?_
              refine lv_dup hx hb dX6_readEither_48 rfl ?_
              refine hk_geti hx hb hts hC_6 hown hW (gx.S hM) tt_6 2 (by decide) rfl kw_127 ⟨rfl, rfl, rfl⟩ fw_65 dX6_readEither_49 ?_
              refine lv_iconst (v := 3) hx hb dX6_readEither_52 (by decide) ?_
              refine lv_iadd hx hb dX6_readEither_53 ?_
              have rg_99 := i32_r w_65
              refine lv_topi (fun x_100 ex_100 => ?_)
              have zx_100 : x_100.toInt = w_65.toInt + 3 := by rw [ex_100]; exact i32_add rfl (by decide) (by omega) (by omega)
              refine hx_puti hx hb hts hC_6 hown hW hT (hx_S.rf (M := [(6, 2)])) (gx.S hM) tt_6 2 (by decide) rfl kw_127 ⟨rfl, rfl, rfl⟩ rfl (x := x_100) ⟨by omega, by omega⟩ rfl rfl rfl (List.mem_singleton.mpr rfl) dX6_readEither_54 (fun H locs h_101 eh_101 hW hT hs => ?_)
              replace fx_1 := (hs.o (gx.S hM) trivial rfl).1.trans fx_1
              replace hM := hM.tr (hs.mono (by decide))
              have f_102 : h_101.2.1 x 2 = x_100 := by rw [eh_101]; exact hx_pi_at _ _ _ _
              refine lv_goto (tgt := 96) hx hb dX6_readEither_57 (by decide) ?_
              obtain ⟨x_103, ex_103⟩ : ∃ y : Int32, y = iv7_4 + Int32.ofInt 1 := ⟨_, rfl⟩
              have rg_104 := i32_r iv7_4
              have zx_103 : x_103.toInt = iv7_4.toInt + (1) := by rw [ex_103]; exact i32_add rfl (by decide) (by omega) (by omega)
              refine lv_iinc (v := x_103) (lv' := [(4, .int x_103), (2, .int r_62), (3, .int iv7_3), (0, .ref x), (1, .int (5 : Int32))]) hx hb dX6_readEither_96 hl (k := 1) rfl ex_103.symm (by decide) rfl (fun ls hl => ?_)
              refine lv_goto (tgt := 7) hx hb dX6_readEither_99 (by decide) ?_
              exact ih7 r_62 iv7_3 x_103 _ _ L_60 h_101 (by omega) (by omega) (by omega) (by omega) (by omega) (by omega)  ls (by omega) hW hT hM   (lv_sub hl [0, 2, 1, 3, 4] rfl)
  have zk_0 : (0 : Int32).toInt = 0 := by decide
  have zk_0 : (0 : Int32).toInt = 0 := by decide
  have zk_0 : (0 : Int32).toInt = 0 := by decide
  exact loop7 402 (0 : Int32) (0 : Int32) (0 : Int32) _ _ L h (by decide) (by decide) (by decide) (by decide) (by decide) (by decide)  ls (by omega) hW hT hM   hl


set_option maxHeartbeats 4000000 in
set_option maxRecDepth 100000 in
theorem t_X6_readOne_4 (l : Launch) (dC : Nat → ClassId) (dI : Nat → Nat → Nat) (dA : Nat → ClassId) (L : List Nat) (h : hx_h) (sz : Nat) (b0 : hx_z) (x : Nat) (hT : hx_T T_tb L h) (gx : hx_g L h x 6) (qt : Nat) (gqt : hx_g L h qt 42) (f_x_0 : h.2.2 x 0 = some qt) (qi : Nat) (gqi : hx_g L h qi 0) (f_x_6 : h.2.2 x 6 = some qi) : Met l yX6_readOne (Cond.code yX6_readOne cX6_readOne 3 (some .boolean) :: hx_all) ({ frames := 15, cells := 0, slots := 0, locals := 342 }) (va_Pc [.ref x, .int (4 : Int32)] (hx_BX T_tb (P_ty dA) (dC, dI) vwCl L h sz b0)) (va_Qi (fun (r : Int32) (u : List Nat × hx_h) => (r.toInt = 0 ∨ r.toInt = 1) ∧ hx_T T_tb u.1 u.2 ∧ hx_S T_tb [(0, 4), (6, 2), (6, 3), (6, 5), (12, 0)] L h u.1 u.2) (hx_E T_tb (P_ty dA) (dC, dI) vwCl (hx_A L sz)) (hx_A L sz)) 0 0 (hx_A L sz) := by
  refine hx_metX (lv := [(0, .ref x), (1, .int (4 : Int32))]) (by decide +kernel) rfl (Nat.le_of_ble_eq_true rfl) rfl ?_
  intro p e s m below meth c hx hb hml hr hlk hts0 hown hin hsz hW hZ ls hl
  have hts : ∀ w ∈ hx_all, w.before _ s = true := fun w hw => hts0 w (List.mem_cons_of_mem _ hw)
  have hown : s.vm.findClass "SmallCourt$Reader" = some m.cls := hown
  have hM : hx_S T_tb [(0, 4), (6, 2), (6, 3), (6, 5), (12, 0)] L h L h := hx_S.rf
  obtain ⟨zLT, zLA, zMT, zMA, zCS, zSF, zVS, zVR⟩ := hZ.2.2.2.2.2.2
  refine lv_aload_n hx hb dX6_readOne_0 rfl (lv_at hl 0 rfl) ?_
  refine va_ldcS (tx := P_st.getD 4 "") hx hb hown (zVR 4 (by decide)) dX6_readOne_1 ?_
  refine hx_goi (hx_runVX (As := [.ref (b0.2.2.2.1 4)]) (rest := []) ⟨hx, hb, hml, hown, hts⟩ hW (gx.S hM) tt_6 (T := TX6) (N := 7) rfl (t_X6_isNextWord l dC dI dA L h s.heap.size b0 x 4 hT (gx.S hM) (by decide) qt (gqt.S hM) ((hM.o gx trivial rfl).2.trans f_x_0)) hZ (cwV 1 hts (hx_gV kw_565 kw_562 kw_564 kw_14 kw_95) rfl rfl rfl (by decide +kernel) ⟨Nat.le_of_ble_eq_true rfl, Nat.le_of_ble_eq_true rfl⟩) rfl hl.1 rfl (Nat.le_of_ble_eq_true rfl) dX6_readOne_3 ⟨Nat.le_of_ble_eq_true rfl, Nat.le_of_ble_eq_true rfl⟩) hW (fun r_3 L_1 h_2 H locs p_4 hW => ?_)
  obtain ⟨⟨w_6, fw_6, hr_5⟩, hT, hs⟩ := p_4
  replace hT : hx_T T_tb L_1 h_2 := hT
  replace hs : hx_S T_tb [(6, 2)] L h L_1 h_2 := hs
  replace hM := hM.tr (hs.mono (by decide))
  have fw_6 : h_2.2.1 x 2 = w_6 := fw_6
  have bw_6 := hT.gi (gx.S hM) tt_6 (k := 2) rfl
  rw [fw_6] at bw_6
  have bw_6 : 0 ≤ w_6.toInt ∧ w_6.toInt ≤ 402 := bw_6
  refine lv_istore_n (lv' := [(2, .int r_3), (0, .ref x), (1, .int (4 : Int32))]) hx hb dX6_readOne_6 rfl hl (by decide) rfl (fun ls hl => ?_)
  refine lv_iload_n hx hb dX6_readOne_7 rfl (lv_at hl 0 rfl) ?_
  refine hb_if_ne (zx := r_3.toInt) (tgt := 25) hx hb rfl dX6_readOne_8 (by decide) (fun c_7 => ?_) (fun c_7 => ?_)
  · skip
    refine lv_iload_n hx hb dX6_readOne_25 rfl (lv_at hl 2 rfl) ?_
    refine lv_bipush (v := 8) hx hb dX6_readOne_26 (by decide) ?_
    refine hb_icmp_lt (zx := 4) (zy := 8) (tgt := 41) hx hb (by decide) (by decide) dX6_readOne_28 (by decide) (fun c_8 => ?_) (fun c_8 => absurd c_8 (by decide))
    refine lv_iload_n hx hb dX6_readOne_41 rfl (lv_at hl 0 rfl) ?_
    refine hb_if_eq (zx := r_3.toInt) (tgt := 78) hx hb rfl dX6_readOne_42 (by decide) (fun c_9 => by exfalso; omega) (fun c_9 => ?_)
    refine lv_aload_n hx hb dX6_readOne_45 rfl (lv_at hl 1 rfl) ?_
    refine lv_dup hx hb dX6_readOne_46 rfl ?_
    refine hk_geti hx hb hts hC_6 hown hW (gx.S hM) tt_6 2 (by decide) rfl kw_127 ⟨rfl, rfl, rfl⟩ fw_6 dX6_readOne_47 ?_
    refine lv_iconst (v := 3) hx hb dX6_readOne_50 (by decide) ?_
    refine lv_iadd hx hb dX6_readOne_51 ?_
    have rg_10 := i32_r w_6
    refine lv_topi (fun x_11 ex_11 => ?_)
    have zx_11 : x_11.toInt = w_6.toInt + 3 := by rw [ex_11]; exact i32_add rfl (by decide) (by omega) (by omega)
    refine hx_puti hx hb hts hC_6 hown hW hT (hx_S.rf (M := [(6, 2)])) (gx.S hM) tt_6 2 (by decide) rfl kw_127 ⟨rfl, rfl, rfl⟩ rfl (x := x_11) ⟨by omega, by omega⟩ rfl rfl rfl (List.mem_singleton.mpr rfl) dX6_readOne_52 (fun H locs h_12 eh_12 hW hT hs => ?_)
    replace hM := hM.tr (hs.mono (by decide))
    have f_13 : h_12.2.1 x 2 = x_11 := by rw [eh_12]; exact hx_pi_at _ _ _ _
    refine lv_aload_n hx hb dX6_readOne_55 rfl (lv_at hl 1 rfl) ?_
    refine lv_iload_n hx hb dX6_readOne_56 rfl (lv_at hl 2 rfl) ?_
    refine lv_iconst (v := 1) hx hb dX6_readOne_57 (by decide) ?_
    refine lv_iadd hx hb dX6_readOne_58 ?_
    refine lv_topi (fun x_14 ex_14 => ?_)
    obtain rfl : x_14 = (5 : Int32) := ex_14.trans (by decide)
    have zc_5 : (5 : Int32).toInt = 5 := by decide
    refine hx_goi (hx_runVX (As := [.int (5 : Int32)]) (rest := []) ⟨hx, hb, hml, hown, hts⟩ hW (gx.S hM) tt_6 (T := TX6) (N := 7) rfl (t_X6_readOne_5 l dC dI dA L_1 h_12 H.size b0 x hT (gx.S hM) qt (gqt.S hM) ((hM.o gx trivial rfl).2.trans f_x_0) qi (gqi.S hM) ((hM.o gx trivial rfl).2.trans f_x_6)) hZ (cwV 1 hts (hx_gV kw_560 kw_557 kw_559 kw_13 kw_95) rfl rfl rfl (by decide +kernel) ⟨Nat.le_of_ble_eq_true rfl, Nat.le_of_ble_eq_true rfl⟩) rfl hl.1 rfl (Nat.le_of_ble_eq_true rfl) dX6_readOne_59 ⟨Nat.le_of_ble_eq_true rfl, Nat.le_of_ble_eq_true rfl⟩) hW (fun r_17 L_15 h_16 H locs p_18 hW => ?_)
    obtain ⟨hr_19, hT, hs⟩ := p_18
    replace hT : hx_T T_tb L_15 h_16 := hT
    replace hs : hx_S T_tb [(0, 4), (6, 2), (6, 3), (6, 5), (12, 0)] L_1 h_12 L_15 h_16 := hs
    replace hM := hM.tr (hs.mono (by decide))
    refine hb_if_ne (zx := r_17.toInt) (tgt := 67) hx hb rfl dX6_readOne_62 (by decide) (fun c_20 => ?_) (fun c_20 => ?_)
    · skip
      refine lv_aload_n hx hb dX6_readOne_67 rfl (lv_at hl 1 rfl) ?_
      refine hk_getr hx hb hts hC_6 hown hW (gx.S hM) tt_6 6 (by decide) rfl kw_131 ⟨rfl, rfl, rfl⟩ ((hM.o gx trivial rfl).2.trans f_x_6) dX6_readOne_68 ?_
      refine lv_bipush (v := -3) hx hb dX6_readOne_71 (by decide) ?_
      have zc_m3 : (-3 : Int32).toInt = -3 := by decide
      refine hx_gov (hx_runV (As := [.int (-3 : Int32)]) (rest := []) ⟨hx, hb, hml, hown, hts⟩ hW (gqi.S hM) tt_0 (T := TX0) (N := 5) rfl (t_X0_addProof l dC dI dA L_15 h_16 H.size qi (-3 : Int32) hT (gqi.S hM)) (cwV 1 hts (hx_gV kw_583 kw_580 kw_581 kw_582 kw_96) rfl rfl rfl (by decide +kernel) ⟨Nat.le_of_ble_eq_true rfl, Nat.le_of_ble_eq_true rfl⟩) rfl hl.1 rfl (Nat.le_of_ble_eq_true rfl) dX6_readOne_73 ⟨Nat.le_of_ble_eq_true rfl, Nat.le_of_ble_eq_true rfl⟩) hW (fun L_21 h_22 H locs p_24 hW => ?_)
      obtain ⟨hT, hs⟩ := p_24
      replace hT : hx_T T_tb L_21 h_22 := hT
      replace hs : hx_S T_tb [(0, 4), (12, 0)] L_15 h_16 L_21 h_22 := hs
      replace hM := hM.tr (hs.mono (by decide))
      refine lv_iconst (v := 1) hx hb dX6_readOne_76 (by decide) ?_
      exact hx_retz hx hb hr rfl hlk hW ⟨(by decide), hT, hM⟩ dX6_readOne_77
    · skip
      refine lv_iconst (v := 0) hx hb dX6_readOne_65 (by decide) ?_
      exact hx_retz hx hb hr rfl hlk hW ⟨(by decide), hT, hM⟩ dX6_readOne_66
  · skip
    refine lv_aload_n hx hb dX6_readOne_11 rfl (lv_at hl 1 rfl) ?_
    refine lv_bipush (v := 40) hx hb dX6_readOne_12 (by decide) ?_
    have zc_40 : (40 : Int32).toInt = 40 := by decide
    refine hx_goi (hx_runV (As := [.int (40 : Int32)]) (rest := []) ⟨hx, hb, hml, hown, hts⟩ hW (gx.S hM) tt_6 (T := TX6) (N := 7) rfl (t_X6_isByte l dC dI dA L_1 h_2 H.size x (40 : Int32) hT (gx.S hM) w_6 fw_6 qt (gqt.S hM) ((hM.o gx trivial rfl).2.trans f_x_0)) (cwV 1 hts (hx_gV kw_569 kw_566 kw_568 kw_15 kw_95) rfl rfl rfl (by decide +kernel) ⟨Nat.le_of_ble_eq_true rfl, Nat.le_of_ble_eq_true rfl⟩) rfl hl.1 rfl (Nat.le_of_ble_eq_true rfl) dX6_readOne_14 ⟨Nat.le_of_ble_eq_true rfl, Nat.le_of_ble_eq_true rfl⟩) hW (fun r_28 L_26 h_27 H locs p_29 hW => ?_)
    obtain ⟨hr_30, hT, hs⟩ := p_29
    replace hT : hx_T T_tb L_26 h_27 := hT
    replace hs : hx_S T_tb [] L_1 h_2 L_26 h_27 := hs
    replace fw_6 := (hs.o (gx.S hM) trivial rfl).1.trans fw_6
    replace hM := hM.tr (hs.mono (by decide))
    refine hb_if_ne (zx := r_28.toInt) (tgt := 25) hx hb rfl dX6_readOne_17 (by decide) (fun c_31 => ?_) (fun c_31 => ?_)
    · skip
      refine lv_iload_n hx hb dX6_readOne_25 rfl (lv_at hl 2 rfl) ?_
      refine lv_bipush (v := 8) hx hb dX6_readOne_26 (by decide) ?_
      refine hb_icmp_lt (zx := 4) (zy := 8) (tgt := 41) hx hb (by decide) (by decide) dX6_readOne_28 (by decide) (fun c_32 => ?_) (fun c_32 => absurd c_32 (by decide))
      refine lv_iload_n hx hb dX6_readOne_41 rfl (lv_at hl 0 rfl) ?_
      refine hb_if_eq (zx := r_3.toInt) (tgt := 78) hx hb rfl dX6_readOne_42 (by decide) (fun c_33 => ?_) (fun c_33 => by exfalso; omega)
      refine lv_aload_n hx hb dX6_readOne_78 rfl (lv_at hl 1 rfl) ?_
      refine lv_dup hx hb dX6_readOne_79 rfl ?_
      refine hk_geti hx hb hts hC_6 hown hW (gx.S hM) tt_6 2 (by decide) rfl kw_127 ⟨rfl, rfl, rfl⟩ fw_6 dX6_readOne_80 ?_
      refine lv_iconst (v := 1) hx hb dX6_readOne_83 (by decide) ?_
      refine lv_iadd hx hb dX6_readOne_84 ?_
      have rg_34 := i32_r w_6
      refine lv_topi (fun x_35 ex_35 => ?_)
      have zx_35 : x_35.toInt = w_6.toInt + 1 := by rw [ex_35]; exact i32_add rfl (by decide) (by omega) (by omega)
      refine hx_puti hx hb hts hC_6 hown hW hT (hx_S.rf (M := [(6, 2)])) (gx.S hM) tt_6 2 (by decide) rfl kw_127 ⟨rfl, rfl, rfl⟩ rfl (x := x_35) ⟨by omega, by omega⟩ rfl rfl rfl (List.mem_singleton.mpr rfl) dX6_readOne_85 (fun H locs h_36 eh_36 hW hT hs => ?_)
      replace hM := hM.tr (hs.mono (by decide))
      have f_37 : h_36.2.1 x 2 = x_35 := by rw [eh_36]; exact hx_pi_at _ _ _ _
      refine lv_aload_n hx hb dX6_readOne_88 rfl (lv_at hl 1 rfl) ?_
      refine lv_iload_n hx hb dX6_readOne_89 rfl (lv_at hl 2 rfl) ?_
      refine lv_iconst (v := 1) hx hb dX6_readOne_90 (by decide) ?_
      refine lv_iadd hx hb dX6_readOne_91 ?_
      refine lv_topi (fun x_38 ex_38 => ?_)
      obtain rfl : x_38 = (5 : Int32) := ex_38.trans (by decide)
      have zc_5 : (5 : Int32).toInt = 5 := by decide
      refine hx_goi (hx_runVX (As := [.int (5 : Int32)]) (rest := []) ⟨hx, hb, hml, hown, hts⟩ hW (gx.S hM) tt_6 (T := TX6) (N := 7) rfl (t_X6_readEither_5 l dC dI dA L_26 h_36 H.size b0 x hT (gx.S hM) qt (gqt.S hM) ((hM.o gx trivial rfl).2.trans f_x_0) qi (gqi.S hM) ((hM.o gx trivial rfl).2.trans f_x_6)) hZ (cwV 1 hts (hx_gV kw_556 kw_553 kw_555 kw_12 kw_95) rfl rfl rfl (by decide +kernel) ⟨Nat.le_of_ble_eq_true rfl, Nat.le_of_ble_eq_true rfl⟩) rfl hl.1 rfl (Nat.le_of_ble_eq_true rfl) dX6_readOne_92 ⟨Nat.le_of_ble_eq_true rfl, Nat.le_of_ble_eq_true rfl⟩) hW (fun r_41 L_39 h_40 H locs p_42 hW => ?_)
      obtain ⟨hr_43, hT, hs⟩ := p_42
      replace hT : hx_T T_tb L_39 h_40 := hT
      replace hs : hx_S T_tb [(0, 4), (6, 2), (6, 3), (6, 5), (12, 0)] L_26 h_36 L_39 h_40 := hs
      replace hM := hM.tr (hs.mono (by decide))
      refine hb_if_ne (zx := r_41.toInt) (tgt := 100) hx hb rfl dX6_readOne_95 (by decide) (fun c_44 => ?_) (fun c_44 => ?_)
      · skip
        refine lv_aload_n hx hb dX6_readOne_100 rfl (lv_at hl 1 rfl) ?_
        refine hx_gov (hx_runV (As := []) (rest := []) ⟨hx, hb, hml, hown, hts⟩ hW (gx.S hM) tt_6 (T := TX6) (N := 7) rfl (t_X6_skipBlanks l dC dI dA L_39 h_40 H.size x hT (gx.S hM) qt (gqt.S hM) ((hM.o gx trivial rfl).2.trans f_x_0)) (cwV 0 hts (hx_gV kw_458 kw_455 kw_457 kw_1 kw_95) rfl rfl rfl (by decide +kernel) ⟨Nat.le_of_ble_eq_true rfl, Nat.le_of_ble_eq_true rfl⟩) rfl hl.1 rfl (Nat.le_of_ble_eq_true rfl) dX6_readOne_101 ⟨Nat.le_of_ble_eq_true rfl, Nat.le_of_ble_eq_true rfl⟩) hW (fun L_45 h_46 H locs p_48 hW => ?_)
        obtain ⟨hT, hs⟩ := p_48
        replace hT : hx_T T_tb L_45 h_46 := hT
        replace hs : hx_S T_tb [(6, 2)] L_39 h_40 L_45 h_46 := hs
        replace hM := hM.tr (hs.mono (by decide))
        refine lv_aload_n hx hb dX6_readOne_104 rfl (lv_at hl 1 rfl) ?_
        refine lv_bipush (v := 41) hx hb dX6_readOne_105 (by decide) ?_
        have zc_41 : (41 : Int32).toInt = 41 := by decide
        obtain ⟨fv_50, efv_50⟩ : ∃ y : Int32, y = h_46.2.1 x 2 := ⟨_, rfl⟩
        have bfv_50 := hT.gi (gx.S hM) tt_6 (k := 2) rfl
        rw [← efv_50] at bfv_50
        have bfv_50 : 0 ≤ fv_50.toInt ∧ fv_50.toInt ≤ 402 := bfv_50
        have ffv_50 := efv_50.symm
        refine hx_goi (hx_runV (As := [.int (41 : Int32)]) (rest := []) ⟨hx, hb, hml, hown, hts⟩ hW (gx.S hM) tt_6 (T := TX6) (N := 7) rfl (t_X6_isByte l dC dI dA L_45 h_46 H.size x (41 : Int32) hT (gx.S hM) fv_50 ffv_50 qt (gqt.S hM) ((hM.o gx trivial rfl).2.trans f_x_0)) (cwV 1 hts (hx_gV kw_569 kw_566 kw_568 kw_15 kw_95) rfl rfl rfl (by decide +kernel) ⟨Nat.le_of_ble_eq_true rfl, Nat.le_of_ble_eq_true rfl⟩) rfl hl.1 rfl (Nat.le_of_ble_eq_true rfl) dX6_readOne_107 ⟨Nat.le_of_ble_eq_true rfl, Nat.le_of_ble_eq_true rfl⟩) hW (fun r_53 L_51 h_52 H locs p_54 hW => ?_)
        obtain ⟨hr_55, hT, hs⟩ := p_54
        replace hT : hx_T T_tb L_51 h_52 := hT
        replace hs : hx_S T_tb [] L_45 h_46 L_51 h_52 := hs
        replace ffv_50 := (hs.o (gx.S hM) trivial rfl).1.trans ffv_50
        replace hM := hM.tr (hs.mono (by decide))
        refine hb_if_ne (zx := r_53.toInt) (tgt := 123) hx hb rfl dX6_readOne_110 (by decide) (fun c_56 => ?_) (fun c_56 => ?_)
        · skip
          refine lv_aload_n hx hb dX6_readOne_123 rfl (lv_at hl 1 rfl) ?_
          refine lv_dup hx hb dX6_readOne_124 rfl ?_
          refine hk_geti hx hb hts hC_6 hown hW (gx.S hM) tt_6 2 (by decide) rfl kw_127 ⟨rfl, rfl, rfl⟩ ffv_50 dX6_readOne_125 ?_
          refine lv_iconst (v := 1) hx hb dX6_readOne_128 (by decide) ?_
          refine lv_iadd hx hb dX6_readOne_129 ?_
          have rg_57 := i32_r fv_50
          refine lv_topi (fun x_58 ex_58 => ?_)
          have zx_58 : x_58.toInt = fv_50.toInt + 1 := by rw [ex_58]; exact i32_add rfl (by decide) (by omega) (by omega)
          refine hx_puti hx hb hts hC_6 hown hW hT (hx_S.rf (M := [(6, 2)])) (gx.S hM) tt_6 2 (by decide) rfl kw_127 ⟨rfl, rfl, rfl⟩ rfl (x := x_58) ⟨by omega, by omega⟩ rfl rfl rfl (List.mem_singleton.mpr rfl) dX6_readOne_130 (fun H locs h_59 eh_59 hW hT hs => ?_)
          replace hM := hM.tr (hs.mono (by decide))
          have f_60 : h_59.2.1 x 2 = x_58 := by rw [eh_59]; exact hx_pi_at _ _ _ _
          refine lv_iconst (v := 1) hx hb dX6_readOne_133 (by decide) ?_
          exact hx_retz hx hb hr rfl hlk hW ⟨(by decide), hT, hM⟩ dX6_readOne_134
        · skip
          refine lv_aload_n hx hb dX6_readOne_113 rfl (lv_at hl 1 rfl) ?_
          refine lv_aload_n hx hb dX6_readOne_114 rfl (lv_at hl 1 rfl) ?_
          refine hk_geti hx hb hts hC_6 hown hW (gx.S hM) tt_6 2 (by decide) rfl kw_127 ⟨rfl, rfl, rfl⟩ ffv_50 dX6_readOne_115 ?_
          refine lv_iconst (v := 0) hx hb dX6_readOne_118 (by decide) ?_
          have zc_0 : (0 : Int32).toInt = 0 := by decide
          refine hx_goi (hx_runV (As := [.int fv_50, .int (0 : Int32)]) (rest := []) ⟨hx, hb, hml, hown, hts⟩ hW (gx.S hM) tt_6 (T := TX6) (N := 7) rfl (t_X6_refuse l dC dI dA L_51 h_52 H.size x fv_50 (0 : Int32) hT (gx.S hM)) (cwV 2 hts (hx_gV kw_527 kw_524 kw_526 kw_6 kw_95) rfl rfl rfl (by decide +kernel) ⟨Nat.le_of_ble_eq_true rfl, Nat.le_of_ble_eq_true rfl⟩) rfl hl.1 rfl (Nat.le_of_ble_eq_true rfl) dX6_readOne_119 ⟨Nat.le_of_ble_eq_true rfl, Nat.le_of_ble_eq_true rfl⟩) hW (fun r_63 L_61 h_62 H locs p_64 hW => ?_)
          obtain ⟨hr_65, hT, hs⟩ := p_64
          replace hT : hx_T T_tb L_61 h_62 := hT
          replace hs : hx_S T_tb [(6, 3)] L_51 h_52 L_61 h_62 := hs
          replace ffv_50 := (hs.o (gx.S hM) trivial rfl).1.trans ffv_50
          replace hM := hM.tr (hs.mono (by decide))
          exact hx_retz hx hb hr (hx_nar01 (by omega)) hlk hW ⟨(by omega), hT, hM⟩ dX6_readOne_122
      · skip
        refine lv_iconst (v := 0) hx hb dX6_readOne_98 (by decide) ?_
        exact hx_retz hx hb hr rfl hlk hW ⟨(by decide), hT, hM⟩ dX6_readOne_99
    · skip
      refine lv_aload_n hx hb dX6_readOne_20 rfl (lv_at hl 1 rfl) ?_
      refine hx_goi (hx_runVX (As := []) (rest := []) ⟨hx, hb, hml, hown, hts⟩ hW (gx.S hM) tt_6 (T := TX6) (N := 7) rfl (t_X6_readTerm l dC dI dA L_26 h_27 H.size b0 x hT (gx.S hM) qt (gqt.S hM) ((hM.o gx trivial rfl).2.trans f_x_0) qi (gqi.S hM) ((hM.o gx trivial rfl).2.trans f_x_6)) hZ (cwV 0 hts (hx_gV kw_573 kw_570 kw_572 kw_16 kw_95) rfl rfl rfl (by decide +kernel) ⟨Nat.le_of_ble_eq_true rfl, Nat.le_of_ble_eq_true rfl⟩) rfl hl.1 rfl (Nat.le_of_ble_eq_true rfl) dX6_readOne_21 ⟨Nat.le_of_ble_eq_true rfl, Nat.le_of_ble_eq_true rfl⟩) hW (fun r_68 L_66 h_67 H locs p_69 hW => ?_)
      obtain ⟨hr_70, hT, hs⟩ := p_69
      replace hT : hx_T T_tb L_66 h_67 := hT
      replace hs : hx_S T_tb [(0, 4), (6, 2), (6, 3), (6, 5), (12, 0)] L_26 h_27 L_66 h_67 := hs
      replace hM := hM.tr (hs.mono (by decide))
      exact hx_retz hx hb hr (hx_nar01 (by omega)) hlk hW ⟨(by omega), hT, hM⟩ dX6_readOne_24


set_option maxHeartbeats 4000000 in
set_option maxRecDepth 100000 in
theorem t_X6_readEither_4 (l : Launch) (dC : Nat → ClassId) (dI : Nat → Nat → Nat) (dA : Nat → ClassId) (L : List Nat) (h : hx_h) (sz : Nat) (b0 : hx_z) (x : Nat) (hT : hx_T T_tb L h) (gx : hx_g L h x 6) (qt : Nat) (gqt : hx_g L h qt 42) (f_x_0 : h.2.2 x 0 = some qt) (qi : Nat) (gqi : hx_g L h qi 0) (f_x_6 : h.2.2 x 6 = some qi) : Met l yX6_readEither (Cond.code yX6_readEither cX6_readEither 5 (some .boolean) :: hx_all) ({ frames := 16, cells := 0, slots := 0, locals := 364 }) (va_Pc [.ref x, .int (4 : Int32)] (hx_BX T_tb (P_ty dA) (dC, dI) vwCl L h sz b0)) (va_Qi (fun (r : Int32) (u : List Nat × hx_h) => (r.toInt = 0 ∨ r.toInt = 1) ∧ hx_T T_tb u.1 u.2 ∧ hx_S T_tb [(0, 4), (6, 2), (6, 3), (6, 5), (12, 0)] L h u.1 u.2) (hx_E T_tb (P_ty dA) (dC, dI) vwCl (hx_A L sz)) (hx_A L sz)) 0 0 (hx_A L sz) := by
  refine hx_metX (lv := [(0, .ref x), (1, .int (4 : Int32))]) (by decide +kernel) rfl (Nat.le_of_ble_eq_true rfl) rfl ?_
  intro p e s m below meth c hx hb hml hr hlk hts0 hown hin hsz hW hZ ls hl
  have hts : ∀ w ∈ hx_all, w.before _ s = true := fun w hw => hts0 w (List.mem_cons_of_mem _ hw)
  have hown : s.vm.findClass "SmallCourt$Reader" = some m.cls := hown
  have hM : hx_S T_tb [(0, 4), (6, 2), (6, 3), (6, 5), (12, 0)] L h L h := hx_S.rf
  obtain ⟨zLT, zLA, zMT, zMA, zCS, zSF, zVS, zVR⟩ := hZ.2.2.2.2.2.2
  refine lv_iconst (v := 0) hx hb dX6_readEither_0 (by decide) ?_
  refine lv_istore_n (lv' := [(2, .int (0 : Int32)), (0, .ref x), (1, .int (4 : Int32))]) hx hb dX6_readEither_1 rfl hl (by decide) rfl (fun ls hl => ?_)
  refine lv_iconst (v := 0) hx hb dX6_readEither_2 (by decide) ?_
  refine lv_istore_n (lv' := [(3, .int (0 : Int32)), (2, .int (0 : Int32)), (0, .ref x), (1, .int (4 : Int32))]) hx hb dX6_readEither_3 rfl hl (by decide) rfl (fun ls hl => ?_)
  refine lv_iconst (v := 0) hx hb dX6_readEither_4 (by decide) ?_
  refine lv_istore (lv' := [(4, .int (0 : Int32)), (3, .int (0 : Int32)), (2, .int (0 : Int32)), (0, .ref x), (1, .int (4 : Int32))]) hx hb dX6_readEither_5 hl (by decide) rfl (fun ls hl => ?_)
  have loop7 : ∀ (n7 : Nat) (iv7_2 iv7_3 iv7_4 : Int32) (H : Heap) (locs : List Loc) (hL1 : List Nat) (hl1 : hx_h), 0 ≤ iv7_2.toInt → iv7_2.toInt ≤ 1 → 0 ≤ iv7_3.toInt → iv7_3.toInt ≤ 1 → 0 ≤ iv7_4.toInt → iv7_4.toInt ≤ 401 → ∀ (ls : Array Slot), 401 - iv7_4.toInt < (n7 : Int) → hx_W T_tb (P_ty dA) (dC, dI) vwCl (hx_A L sz) s.heap hL1 hl1 s H locs → hx_T T_tb hL1 hl1 → hx_S T_tb [(0, 4), (6, 2), (6, 3), (6, 5), (12, 0)] L h hL1 hl1 → lv_has ls 5 [(4, .int iv7_4), (3, .int iv7_3), (2, .int iv7_2), (0, .ref x), (1, .int (4 : Int32))] → W p l e ({ frames := 16, cells := 0, slots := 0, locals := 364 }) s m ([.ref x, .int (4 : Int32)] : List Value).toArray below meth c H locs 0 0 (MQ below (va_Qi (fun (r : Int32) (u : List Nat × hx_h) => (r.toInt = 0 ∨ r.toInt = 1) ∧ hx_T T_tb u.1 u.2 ∧ hx_S T_tb [(0, 4), (6, 2), (6, 3), (6, 5), (12, 0)] L h u.1 u.2) (hx_E T_tb (P_ty dA) (dC, dI) vwCl (hx_A L sz)) (hx_A L sz)) ([.ref x, .int (4 : Int32)] : List Value).toArray s 0 0 (hx_A L sz)) (F0 m 7 ls []) := by
    intro n7
    induction n7 with
    | zero => intro iv7_2 iv7_3 iv7_4 H locs hL1 hl1 bliv7_2 buiv7_2 bliv7_3 buiv7_3 bliv7_4 buiv7_4  ls hn7; exfalso; omega
    | succ n7 ih7 =>
      intro iv7_2 iv7_3 iv7_4 H locs hL1 hl1 bliv7_2 buiv7_2 bliv7_3 buiv7_3 bliv7_4 buiv7_4  ls hn7 hW hT hM   hl
      refine lv_iload hx hb dX6_readEither_7 (lv_at hl 0 rfl) ?_
      refine lv_aload_n hx hb dX6_readEither_9 rfl (lv_at hl 3 rfl) ?_
      refine hx_geti hx hb hts hC_6 hown hW hT (gx.S hM) tt_6 1 (by decide) rfl kw_126 ⟨rfl, rfl, rfl⟩ dX6_readEither_10 (fun x_1 ex_1 lx_1 ux_1 => ?_)
      have fx_1 := ex_1.symm
      refine hb_icmp_gt (zx := iv7_4.toInt) (zy := x_1.toInt) (tgt := 102) hx hb rfl rfl dX6_readEither_13 (by decide) (fun c_2 => ?_) (fun c_2 => ?_)
      · skip
        refine lv_iconst (v := 0) hx hb dX6_readEither_102 (by decide) ?_
        exact hx_retz hx hb hr rfl hlk hW ⟨(by decide), hT, hM⟩ dX6_readEither_103
      · skip
        refine lv_aload_n hx hb dX6_readEither_16 rfl (lv_at hl 3 rfl) ?_
        refine lv_iload_n hx hb dX6_readEither_17 rfl (lv_at hl 4 rfl) ?_
        have zc_4 : (4 : Int32).toInt = 4 := by decide
        refine hx_goi (hx_runVX (As := [.int (4 : Int32)]) (rest := []) ⟨hx, hb, hml, hown, hts⟩ hW (gx.S hM) tt_6 (T := TX6) (N := 7) rfl (t_X6_readOne_4 l dC dI dA hL1 hl1 H.size b0 x hT (gx.S hM) qt (gqt.S hM) ((hM.o gx trivial rfl).2.trans f_x_0) qi (gqi.S hM) ((hM.o gx trivial rfl).2.trans f_x_6)) hZ (cwV 1 hts (hx_gV kw_560 kw_557 kw_559 kw_13 kw_95) rfl rfl rfl (by decide +kernel) ⟨Nat.le_of_ble_eq_true rfl, Nat.le_of_ble_eq_true rfl⟩) rfl hl.1 rfl (Nat.le_of_ble_eq_true rfl) dX6_readEither_18 ⟨Nat.le_of_ble_eq_true rfl, Nat.le_of_ble_eq_true rfl⟩) hW (fun r_5 L_3 h_4 H locs p_6 hW => ?_)
        obtain ⟨hr_7, hT, hs⟩ := p_6
        replace hT : hx_T T_tb L_3 h_4 := hT
        replace hs : hx_S T_tb [(0, 4), (6, 2), (6, 3), (6, 5), (12, 0)] hL1 hl1 L_3 h_4 := hs
        replace fx_1 := (hs.o (gx.S hM) trivial rfl).1.trans fx_1
        replace hM := hM.tr (hs.mono (by decide))
        refine hb_if_eq (zx := r_5.toInt) (tgt := 102) hx hb rfl dX6_readEither_21 (by decide) (fun c_8 => ?_) (fun c_8 => ?_)
        · skip
          refine lv_iconst (v := 0) hx hb dX6_readEither_102 (by decide) ?_
          exact hx_retz hx hb hr rfl hlk hW ⟨(by decide), hT, hM⟩ dX6_readEither_103
        · skip
          refine lv_iload_n hx hb dX6_readEither_24 rfl (lv_at hl 2 rfl) ?_
          refine hb_if_eq (zx := iv7_2.toInt) (tgt := 36) hx hb rfl dX6_readEither_25 (by decide) (fun c_9 => ?_) (fun c_9 => ?_)
          · skip
            refine lv_aload_n hx hb dX6_readEither_36 rfl (lv_at hl 3 rfl) ?_
            refine va_ldcS (tx := P_st.getD 2 "") hx hb hown (zVR 2 (by decide)) dX6_readEither_37 ?_
            refine hx_goi (hx_runVX (As := [.ref (b0.2.2.2.1 2)]) (rest := []) ⟨hx, hb, hml, hown, hts⟩ hW (gx.S hM) tt_6 (T := TX6) (N := 7) rfl (t_X6_isNextWord l dC dI dA L_3 h_4 H.size b0 x 2 hT (gx.S hM) (by decide) qt (gqt.S hM) ((hM.o gx trivial rfl).2.trans f_x_0)) hZ (cwV 1 hts (hx_gV kw_565 kw_562 kw_564 kw_14 kw_95) rfl rfl rfl (by decide +kernel) ⟨Nat.le_of_ble_eq_true rfl, Nat.le_of_ble_eq_true rfl⟩) rfl hl.1 rfl (Nat.le_of_ble_eq_true rfl) dX6_readEither_39 ⟨Nat.le_of_ble_eq_true rfl, Nat.le_of_ble_eq_true rfl⟩) hW (fun r_12 L_10 h_11 H locs p_13 hW => ?_)
            obtain ⟨⟨w_15, fw_15, hr_14⟩, hT, hs⟩ := p_13
            replace hT : hx_T T_tb L_10 h_11 := hT
            replace hs : hx_S T_tb [(6, 2)] L_3 h_4 L_10 h_11 := hs
            replace fx_1 := (hs.o (gx.S hM) trivial rfl).1.trans fx_1
            replace hM := hM.tr (hs.mono (by decide))
            have fw_15 : h_11.2.1 x 2 = w_15 := fw_15
            have bw_15 := hT.gi (gx.S hM) tt_6 (k := 2) rfl
            rw [fw_15] at bw_15
            have bw_15 : 0 ≤ w_15.toInt ∧ w_15.toInt ≤ 402 := bw_15
            refine lv_istore_n (lv' := [(2, .int r_12), (4, .int iv7_4), (3, .int iv7_3), (0, .ref x), (1, .int (4 : Int32))]) hx hb dX6_readEither_42 rfl hl (by decide) rfl (fun ls hl => ?_)
            refine lv_iload_n hx hb dX6_readEither_43 rfl (lv_at hl 0 rfl) ?_
            refine hb_if_eq (zx := r_12.toInt) (tgt := 60) hx hb rfl dX6_readEither_44 (by decide) (fun c_16 => ?_) (fun c_16 => ?_)
            · skip
              refine lv_iload_n hx hb dX6_readEither_60 rfl (lv_at hl 2 rfl) ?_
              refine hb_if_eq (zx := iv7_3.toInt) (tgt := 73) hx hb rfl dX6_readEither_61 (by decide) (fun c_17 => ?_) (fun c_17 => ?_)
              · skip
                refine lv_aload_n hx hb dX6_readEither_73 rfl (lv_at hl 3 rfl) ?_
                refine va_ldcS (tx := P_st.getD 3 "") hx hb hown (zVR 3 (by decide)) dX6_readEither_74 ?_
                refine hx_goi (hx_runVX (As := [.ref (b0.2.2.2.1 3)]) (rest := []) ⟨hx, hb, hml, hown, hts⟩ hW (gx.S hM) tt_6 (T := TX6) (N := 7) rfl (t_X6_isNextWord l dC dI dA L_10 h_11 H.size b0 x 3 hT (gx.S hM) (by decide) qt (gqt.S hM) ((hM.o gx trivial rfl).2.trans f_x_0)) hZ (cwV 1 hts (hx_gV kw_565 kw_562 kw_564 kw_14 kw_95) rfl rfl rfl (by decide +kernel) ⟨Nat.le_of_ble_eq_true rfl, Nat.le_of_ble_eq_true rfl⟩) rfl hl.1 rfl (Nat.le_of_ble_eq_true rfl) dX6_readEither_76 ⟨Nat.le_of_ble_eq_true rfl, Nat.le_of_ble_eq_true rfl⟩) hW (fun r_20 L_18 h_19 H locs p_21 hW => ?_)
                obtain ⟨⟨w_23, fw_23, hr_22⟩, hT, hs⟩ := p_21
                replace hT : hx_T T_tb L_18 h_19 := hT
                replace hs : hx_S T_tb [(6, 2)] L_10 h_11 L_18 h_19 := hs
                replace fx_1 := (hs.o (gx.S hM) trivial rfl).1.trans fx_1
                replace hM := hM.tr (hs.mono (by decide))
                have fw_23 : h_19.2.1 x 2 = w_23 := fw_23
                have bw_23 := hT.gi (gx.S hM) tt_6 (k := 2) rfl
                rw [fw_23] at bw_23
                have bw_23 : 0 ≤ w_23.toInt ∧ w_23.toInt ≤ 402 := bw_23
                refine lv_istore_n (lv' := [(3, .int r_20), (2, .int r_12), (4, .int iv7_4), (0, .ref x), (1, .int (4 : Int32))]) hx hb dX6_readEither_79 rfl hl (by decide) rfl (fun ls hl => ?_)
                refine lv_iload_n hx hb dX6_readEither_80 rfl (lv_at hl 0 rfl) ?_
                refine hb_if_ne (zx := r_20.toInt) (tgt := 86) hx hb rfl dX6_readEither_81 (by decide) (fun c_24 => ?_) (fun c_24 => ?_)
                · skip
                  refine lv_aload_n hx hb dX6_readEither_86 rfl (lv_at hl 3 rfl) ?_
                  refine lv_dup hx hb dX6_readEither_87 rfl ?_
                  refine hk_geti hx hb hts hC_6 hown hW (gx.S hM) tt_6 2 (by decide) rfl kw_127 ⟨rfl, rfl, rfl⟩ fw_23 dX6_readEither_88 ?_
                  refine lv_iconst (v := 2) hx hb dX6_readEither_91 (by decide) ?_
                  refine lv_iadd hx hb dX6_readEither_92 ?_
                  have rg_25 := i32_r w_23
                  refine lv_topi (fun x_26 ex_26 => ?_)
                  have zx_26 : x_26.toInt = w_23.toInt + 2 := by rw [ex_26]; exact i32_add rfl (by decide) (by omega) (by omega)
                  refine hx_puti hx hb hts hC_6 hown hW hT (hx_S.rf (M := [(6, 2)])) (gx.S hM) tt_6 2 (by decide) rfl kw_127 ⟨rfl, rfl, rfl⟩ rfl (x := x_26) ⟨by omega, by omega⟩ rfl rfl rfl (List.mem_singleton.mpr rfl) dX6_readEither_93 (fun H locs h_27 eh_27 hW hT hs => ?_)
                  replace fx_1 := (hs.o (gx.S hM) trivial rfl).1.trans fx_1
                  replace hM := hM.tr (hs.mono (by decide))
                  have f_28 : h_27.2.1 x 2 = x_26 := by rw [eh_27]; exact hx_pi_at _ _ _ _
                  obtain ⟨x_29, ex_29⟩ : ∃ y : Int32, y = iv7_4 + Int32.ofInt 1 := ⟨_, rfl⟩
                  have rg_30 := i32_r iv7_4
                  have zx_29 : x_29.toInt = iv7_4.toInt + (1) := by rw [ex_29]; exact i32_add rfl (by decide) (by omega) (by omega)
                  refine lv_iinc (v := x_29) (lv' := [(4, .int x_29), (3, .int r_20), (2, .int r_12), (0, .ref x), (1, .int (4 : Int32))]) hx hb dX6_readEither_96 hl (k := 2) rfl ex_29.symm (by decide) rfl (fun ls hl => ?_)
                  refine lv_goto (tgt := 7) hx hb dX6_readEither_99 (by decide) ?_
                  exact ih7 r_12 r_20 x_29 _ _ L_18 h_27 (by omega) (by omega) (by omega) (by omega) (by omega) (by omega)  ls (by omega) hW hT hM   (lv_sub hl [0, 1, 2, 3, 4] rfl)
                · skip
                  refine lv_iconst (v := 1) hx hb dX6_readEither_84 (by decide) ?_
                  exact hx_retz hx hb hr rfl hlk hW ⟨(by decide), hT, hM⟩ dX6_readEither_85
              · skip
                refine lv_aload_n hx hb dX6_readEither_64 rfl (lv_at hl 3 rfl) ?_
                refine hk_getr hx hb hts hC_6 hown hW (gx.S hM) tt_6 6 (by decide) rfl kw_131 ⟨rfl, rfl, rfl⟩ ((hM.o gx trivial rfl).2.trans f_x_6) dX6_readEither_65 ?_
                refine lv_bipush (v := -2) hx hb dX6_readEither_68 (by decide) ?_
                have zc_m2 : (-2 : Int32).toInt = -2 := by decide
                refine hx_gov (hx_runV (As := [.int (-2 : Int32)]) (rest := []) ⟨hx, hb, hml, hown, hts⟩ hW (gqi.S hM) tt_0 (T := TX0) (N := 5) rfl (t_X0_addProof l dC dI dA L_10 h_11 H.size qi (-2 : Int32) hT (gqi.S hM)) (cwV 1 hts (hx_gV kw_583 kw_580 kw_581 kw_582 kw_96) rfl rfl rfl (by decide +kernel) ⟨Nat.le_of_ble_eq_true rfl, Nat.le_of_ble_eq_true rfl⟩) rfl hl.1 rfl (Nat.le_of_ble_eq_true rfl) dX6_readEither_70 ⟨Nat.le_of_ble_eq_true rfl, Nat.le_of_ble_eq_true rfl⟩) hW (fun L_31 h_32 H locs p_34 hW => ?_)
                obtain ⟨hT, hs⟩ := p_34
                replace hT : hx_T T_tb L_31 h_32 := hT
                replace hs : hx_S T_tb [(0, 4), (12, 0)] L_10 h_11 L_31 h_32 := hs
                replace fx_1 := (hs.o (gx.S hM) trivial rfl).1.trans fx_1
                replace fw_15 := (hs.o (gx.S hM) trivial rfl).1.trans fw_15
                replace hM := hM.tr (hs.mono (by decide))
                refine lv_aload_n hx hb dX6_readEither_73 rfl (lv_at hl 3 rfl) ?_
                refine va_ldcS (tx := P_st.getD 3 "") hx hb hown (zVR 3 (by decide)) dX6_readEither_74 ?_
                refine hx_goi (hx_runVX (As := [.ref (b0.2.2.2.1 3)]) (rest := []) ⟨hx, hb, hml, hown, hts⟩ hW (gx.S hM) tt_6 (T := TX6) (N := 7) rfl (t_X6_isNextWord l dC dI dA L_31 h_32 H.size b0 x 3 hT (gx.S hM) (by decide) qt (gqt.S hM) ((hM.o gx trivial rfl).2.trans f_x_0)) hZ (cwV 1 hts (hx_gV kw_565 kw_562 kw_564 kw_14 kw_95) rfl rfl rfl (by decide +kernel) ⟨Nat.le_of_ble_eq_true rfl, Nat.le_of_ble_eq_true rfl⟩) rfl hl.1 rfl (Nat.le_of_ble_eq_true rfl) dX6_readEither_76 ⟨Nat.le_of_ble_eq_true rfl, Nat.le_of_ble_eq_true rfl⟩) hW (fun r_38 L_36 h_37 H locs p_39 hW => ?_)
                obtain ⟨⟨w_41, fw_41, hr_40⟩, hT, hs⟩ := p_39
                replace hT : hx_T T_tb L_36 h_37 := hT
                replace hs : hx_S T_tb [(6, 2)] L_31 h_32 L_36 h_37 := hs
                replace fx_1 := (hs.o (gx.S hM) trivial rfl).1.trans fx_1
                replace hM := hM.tr (hs.mono (by decide))
                have fw_41 : h_37.2.1 x 2 = w_41 := fw_41
                have bw_41 := hT.gi (gx.S hM) tt_6 (k := 2) rfl
                rw [fw_41] at bw_41
                have bw_41 : 0 ≤ w_41.toInt ∧ w_41.toInt ≤ 402 := bw_41
                refine lv_istore_n (lv' := [(3, .int r_38), (2, .int r_12), (4, .int iv7_4), (0, .ref x), (1, .int (4 : Int32))]) hx hb dX6_readEither_79 rfl hl (by decide) rfl (fun ls hl => ?_)
                refine lv_iload_n hx hb dX6_readEither_80 rfl (lv_at hl 0 rfl) ?_
                refine hb_if_ne (zx := r_38.toInt) (tgt := 86) hx hb rfl dX6_readEither_81 (by decide) (fun c_42 => ?_) (fun c_42 => ?_)
                · skip
                  refine lv_aload_n hx hb dX6_readEither_86 rfl (lv_at hl 3 rfl) ?_
                  refine lv_dup hx hb dX6_readEither_87 rfl ?_
                  refine hk_geti hx hb hts hC_6 hown hW (gx.S hM) tt_6 2 (by decide) rfl kw_127 ⟨rfl, rfl, rfl⟩ fw_41 dX6_readEither_88 ?_
                  refine lv_iconst (v := 2) hx hb dX6_readEither_91 (by decide) ?_
                  refine lv_iadd hx hb dX6_readEither_92 ?_
                  have rg_43 := i32_r w_41
                  refine lv_topi (fun x_44 ex_44 => ?_)
                  have zx_44 : x_44.toInt = w_41.toInt + 2 := by rw [ex_44]; exact i32_add rfl (by decide) (by omega) (by omega)
                  refine hx_puti hx hb hts hC_6 hown hW hT (hx_S.rf (M := [(6, 2)])) (gx.S hM) tt_6 2 (by decide) rfl kw_127 ⟨rfl, rfl, rfl⟩ rfl (x := x_44) ⟨by omega, by omega⟩ rfl rfl rfl (List.mem_singleton.mpr rfl) dX6_readEither_93 (fun H locs h_45 eh_45 hW hT hs => ?_)
                  replace fx_1 := (hs.o (gx.S hM) trivial rfl).1.trans fx_1
                  replace hM := hM.tr (hs.mono (by decide))
                  have f_46 : h_45.2.1 x 2 = x_44 := by rw [eh_45]; exact hx_pi_at _ _ _ _
                  obtain ⟨x_47, ex_47⟩ : ∃ y : Int32, y = iv7_4 + Int32.ofInt 1 := ⟨_, rfl⟩
                  have rg_48 := i32_r iv7_4
                  have zx_47 : x_47.toInt = iv7_4.toInt + (1) := by rw [ex_47]; exact i32_add rfl (by decide) (by omega) (by omega)
                  refine lv_iinc (v := x_47) (lv' := [(4, .int x_47), (3, .int r_38), (2, .int r_12), (0, .ref x), (1, .int (4 : Int32))]) hx hb dX6_readEither_96 hl (k := 2) rfl ex_47.symm (by decide) rfl (fun ls hl => ?_)
                  refine lv_goto (tgt := 7) hx hb dX6_readEither_99 (by decide) ?_
                  exact ih7 r_12 r_38 x_47 _ _ L_36 h_45 (by omega) (by omega) (by omega) (by omega) (by omega) (by omega)  ls (by omega) hW hT hM   (lv_sub hl [0, 1, 2, 3, 4] rfl)
                · skip
                  refine lv_iconst (v := 1) hx hb dX6_readEither_84 (by decide) ?_
                  exact hx_retz hx hb hr rfl hlk hW ⟨(by decide), hT, hM⟩ dX6_readEither_85
            · skip
              refine lv_aload_n hx hb dX6_readEither_47 rfl (lv_at hl 3 rfl) ?_
              refine lv_dup hx hb dX6_readEither_48 rfl ?_
              refine hk_geti hx hb hts hC_6 hown hW (gx.S hM) tt_6 2 (by decide) rfl kw_127 ⟨rfl, rfl, rfl⟩ fw_15 dX6_readEither_49 ?_
              refine lv_iconst (v := 3) hx hb dX6_readEither_52 (by decide) ?_
              refine lv_iadd hx hb dX6_readEither_53 ?_
              have rg_49 := i32_r w_15
              refine lv_topi (fun x_50 ex_50 => ?_)
              have zx_50 : x_50.toInt = w_15.toInt + 3 := by rw [ex_50]; exact i32_add rfl (by decide) (by omega) (by omega)
              refine hx_puti hx hb hts hC_6 hown hW hT (hx_S.rf (M := [(6, 2)])) (gx.S hM) tt_6 2 (by decide) rfl kw_127 ⟨rfl, rfl, rfl⟩ rfl (x := x_50) ⟨by omega, by omega⟩ rfl rfl rfl (List.mem_singleton.mpr rfl) dX6_readEither_54 (fun H locs h_51 eh_51 hW hT hs => ?_)
              replace fx_1 := (hs.o (gx.S hM) trivial rfl).1.trans fx_1
              replace hM := hM.tr (hs.mono (by decide))
              have f_52 : h_51.2.1 x 2 = x_50 := by rw [eh_51]; exact hx_pi_at _ _ _ _
              refine lv_goto (tgt := 96) hx hb dX6_readEither_57 (by decide) ?_
              obtain ⟨x_53, ex_53⟩ : ∃ y : Int32, y = iv7_4 + Int32.ofInt 1 := ⟨_, rfl⟩
              have rg_54 := i32_r iv7_4
              have zx_53 : x_53.toInt = iv7_4.toInt + (1) := by rw [ex_53]; exact i32_add rfl (by decide) (by omega) (by omega)
              refine lv_iinc (v := x_53) (lv' := [(4, .int x_53), (2, .int r_12), (3, .int iv7_3), (0, .ref x), (1, .int (4 : Int32))]) hx hb dX6_readEither_96 hl (k := 1) rfl ex_53.symm (by decide) rfl (fun ls hl => ?_)
              refine lv_goto (tgt := 7) hx hb dX6_readEither_99 (by decide) ?_
              exact ih7 r_12 iv7_3 x_53 _ _ L_10 h_51 (by omega) (by omega) (by omega) (by omega) (by omega) (by omega)  ls (by omega) hW hT hM   (lv_sub hl [0, 2, 1, 3, 4] rfl)
          · skip
            refine lv_aload_n hx hb dX6_readEither_28 rfl (lv_at hl 3 rfl) ?_
            refine hk_getr hx hb hts hC_6 hown hW (gx.S hM) tt_6 6 (by decide) rfl kw_131 ⟨rfl, rfl, rfl⟩ ((hM.o gx trivial rfl).2.trans f_x_6) dX6_readEither_29 ?_
            refine lv_iconst (v := -1) hx hb dX6_readEither_32 (by decide) ?_
            have zc_m1 : (-1 : Int32).toInt = -1 := by decide
            refine hx_gov (hx_runV (As := [.int (-1 : Int32)]) (rest := []) ⟨hx, hb, hml, hown, hts⟩ hW (gqi.S hM) tt_0 (T := TX0) (N := 5) rfl (t_X0_addProof l dC dI dA L_3 h_4 H.size qi (-1 : Int32) hT (gqi.S hM)) (cwV 1 hts (hx_gV kw_583 kw_580 kw_581 kw_582 kw_96) rfl rfl rfl (by decide +kernel) ⟨Nat.le_of_ble_eq_true rfl, Nat.le_of_ble_eq_true rfl⟩) rfl hl.1 rfl (Nat.le_of_ble_eq_true rfl) dX6_readEither_33 ⟨Nat.le_of_ble_eq_true rfl, Nat.le_of_ble_eq_true rfl⟩) hW (fun L_55 h_56 H locs p_58 hW => ?_)
            obtain ⟨hT, hs⟩ := p_58
            replace hT : hx_T T_tb L_55 h_56 := hT
            replace hs : hx_S T_tb [(0, 4), (12, 0)] L_3 h_4 L_55 h_56 := hs
            replace fx_1 := (hs.o (gx.S hM) trivial rfl).1.trans fx_1
            replace hM := hM.tr (hs.mono (by decide))
            refine lv_aload_n hx hb dX6_readEither_36 rfl (lv_at hl 3 rfl) ?_
            refine va_ldcS (tx := P_st.getD 2 "") hx hb hown (zVR 2 (by decide)) dX6_readEither_37 ?_
            refine hx_goi (hx_runVX (As := [.ref (b0.2.2.2.1 2)]) (rest := []) ⟨hx, hb, hml, hown, hts⟩ hW (gx.S hM) tt_6 (T := TX6) (N := 7) rfl (t_X6_isNextWord l dC dI dA L_55 h_56 H.size b0 x 2 hT (gx.S hM) (by decide) qt (gqt.S hM) ((hM.o gx trivial rfl).2.trans f_x_0)) hZ (cwV 1 hts (hx_gV kw_565 kw_562 kw_564 kw_14 kw_95) rfl rfl rfl (by decide +kernel) ⟨Nat.le_of_ble_eq_true rfl, Nat.le_of_ble_eq_true rfl⟩) rfl hl.1 rfl (Nat.le_of_ble_eq_true rfl) dX6_readEither_39 ⟨Nat.le_of_ble_eq_true rfl, Nat.le_of_ble_eq_true rfl⟩) hW (fun r_62 L_60 h_61 H locs p_63 hW => ?_)
            obtain ⟨⟨w_65, fw_65, hr_64⟩, hT, hs⟩ := p_63
            replace hT : hx_T T_tb L_60 h_61 := hT
            replace hs : hx_S T_tb [(6, 2)] L_55 h_56 L_60 h_61 := hs
            replace fx_1 := (hs.o (gx.S hM) trivial rfl).1.trans fx_1
            replace hM := hM.tr (hs.mono (by decide))
            have fw_65 : h_61.2.1 x 2 = w_65 := fw_65
            have bw_65 := hT.gi (gx.S hM) tt_6 (k := 2) rfl
            rw [fw_65] at bw_65
            have bw_65 : 0 ≤ w_65.toInt ∧ w_65.toInt ≤ 402 := bw_65
            refine lv_istore_n (lv' := [(2, .int r_62), (4, .int iv7_4), (3, .int iv7_3), (0, .ref x), (1, .int (4 : Int32))]) hx hb dX6_readEither_42 rfl hl (by decide) rfl (fun ls hl => ?_)
            refine lv_iload_n hx hb dX6_readEither_43 rfl (lv_at hl 0 rfl) ?_
            refine hb_if_eq (zx := r_62.toInt) (tgt := 60) hx hb rfl dX6_readEither_44 (by decide) (fun c_66 => ?_) (fun c_66 => ?_)
            · skip
              refine lv_iload_n hx hb dX6_readEither_60 rfl (lv_at hl 2 rfl) ?_
              refine hb_if_eq (zx := iv7_3.toInt) (tgt := 73) hx hb rfl dX6_readEither_61 (by decide) (fun c_67 => ?_) (fun c_67 => ?_)
              · skip
                refine lv_aload_n hx hb dX6_readEither_73 rfl (lv_at hl 3 rfl) ?_
                refine va_ldcS (tx := P_st.getD 3 "") hx hb hown (zVR 3 (by decide)) dX6_readEither_74 ?_
                refine hx_goi (hx_runVX (As := [.ref (b0.2.2.2.1 3)]) (rest := []) ⟨hx, hb, hml, hown, hts⟩ hW (gx.S hM) tt_6 (T := TX6) (N := 7) rfl (t_X6_isNextWord l dC dI dA L_60 h_61 H.size b0 x 3 hT (gx.S hM) (by decide) qt (gqt.S hM) ((hM.o gx trivial rfl).2.trans f_x_0)) hZ (cwV 1 hts (hx_gV kw_565 kw_562 kw_564 kw_14 kw_95) rfl rfl rfl (by decide +kernel) ⟨Nat.le_of_ble_eq_true rfl, Nat.le_of_ble_eq_true rfl⟩) rfl hl.1 rfl (Nat.le_of_ble_eq_true rfl) dX6_readEither_76 ⟨Nat.le_of_ble_eq_true rfl, Nat.le_of_ble_eq_true rfl⟩) hW (fun r_70 L_68 h_69 H locs p_71 hW => ?_)
                obtain ⟨⟨w_73, fw_73, hr_72⟩, hT, hs⟩ := p_71
                replace hT : hx_T T_tb L_68 h_69 := hT
                replace hs : hx_S T_tb [(6, 2)] L_60 h_61 L_68 h_69 := hs
                replace fx_1 := (hs.o (gx.S hM) trivial rfl).1.trans fx_1
                replace hM := hM.tr (hs.mono (by decide))
                have fw_73 : h_69.2.1 x 2 = w_73 := fw_73
                have bw_73 := hT.gi (gx.S hM) tt_6 (k := 2) rfl
                rw [fw_73] at bw_73
                have bw_73 : 0 ≤ w_73.toInt ∧ w_73.toInt ≤ 402 := bw_73
                refine lv_istore_n (lv' := [(3, .int r_70), (2, .int r_62), (4, .int iv7_4), (0, .ref x), (1, .int (4 : Int32))]) hx hb dX6_readEither_79 rfl hl (by decide) rfl (fun ls hl => ?_)
                refine lv_iload_n hx hb dX6_readEither_80 rfl (lv_at hl 0 rfl) ?_
                refine hb_if_ne (zx := r_70.toInt) (tgt := 86) hx hb rfl dX6_readEither_81 (by decide) (fun c_74 => ?_) (fun c_74 => ?_)
                · skip
                  refine lv_aload_n hx hb dX6_readEither_86 rfl (lv_at hl 3 rfl) ?_
                  refine lv_dup hx hb dX6_readEither_87 rfl ?_
                  refine hk_geti hx hb hts hC_6 hown hW (gx.S hM) tt_6 2 (by decide) rfl kw_127 ⟨rfl, rfl, rfl⟩ fw_73 dX6_readEither_88 ?_
                  refine lv_iconst (v := 2) hx hb dX6_readEither_91 (by decide) ?_
                  refine lv_iadd hx hb dX6_readEither_92 ?_
                  have rg_75 := i32_r w_73
                  refine lv_topi (fun x_76 ex_76 => ?_)
                  have zx_76 : x_76.toInt = w_73.toInt + 2 := by rw [ex_76]; exact i32_add rfl (by decide) (by omega) (by omega)
                  refine hx_puti hx hb hts hC_6 hown hW hT (hx_S.rf (M := [(6, 2)])) (gx.S hM) tt_6 2 (by decide) rfl kw_127 ⟨rfl, rfl, rfl⟩ rfl (x := x_76) ⟨by omega, by omega⟩ rfl rfl rfl (List.mem_singleton.mpr rfl) dX6_readEither_93 (fun H locs h_77 eh_77 hW hT hs => ?_)
                  replace fx_1 := (hs.o (gx.S hM) trivial rfl).1.trans fx_1
                  replace hM := hM.tr (hs.mono (by decide))
                  have f_78 : h_77.2.1 x 2 = x_76 := by rw [eh_77]; exact hx_pi_at _ _ _ _
                  obtain ⟨x_79, ex_79⟩ : ∃ y : Int32, y = iv7_4 + Int32.ofInt 1 := ⟨_, rfl⟩
                  have rg_80 := i32_r iv7_4
                  have zx_79 : x_79.toInt = iv7_4.toInt + (1) := by rw [ex_79]; exact i32_add rfl (by decide) (by omega) (by omega)
                  refine lv_iinc (v := x_79) (lv' := [(4, .int x_79), (3, .int r_70), (2, .int r_62), (0, .ref x), (1, .int (4 : Int32))]) hx hb dX6_readEither_96 hl (k := 2) rfl ex_79.symm (by decide) rfl (fun ls hl => ?_)
                  refine lv_goto (tgt := 7) hx hb dX6_readEither_99 (by decide) ?_
                  exact ih7 r_62 r_70 x_79 _ _ L_68 h_77 (by omega) (by omega) (by omega) (by omega) (by omega) (by omega)  ls (by omega) hW hT hM   (lv_sub hl [0, 1, 2, 3, 4] rfl)
                · skip
                  refine lv_iconst (v := 1) hx hb dX6_readEither_84 (by decide) ?_
                  exact hx_retz hx hb hr rfl hlk hW ⟨(by decide), hT, hM⟩ dX6_readEither_85
              · skip
                refine lv_aload_n hx hb dX6_readEither_64 rfl (lv_at hl 3 rfl) ?_
                refine hk_getr hx hb hts hC_6 hown hW (gx.S hM) tt_6 6 (by decide) rfl kw_131 ⟨rfl, rfl, rfl⟩ ((hM.o gx trivial rfl).2.trans f_x_6) dX6_readEither_65 ?_
                refine lv_bipush (v := -2) hx hb dX6_readEither_68 (by decide) ?_
                have zc_m2 : (-2 : Int32).toInt = -2 := by decide
                refine hx_gov (hx_runV (As := [.int (-2 : Int32)]) (rest := []) ⟨hx, hb, hml, hown, hts⟩ hW (gqi.S hM) tt_0 (T := TX0) (N := 5) rfl (t_X0_addProof l dC dI dA L_60 h_61 H.size qi (-2 : Int32) hT (gqi.S hM)) (cwV 1 hts (hx_gV kw_583 kw_580 kw_581 kw_582 kw_96) rfl rfl rfl (by decide +kernel) ⟨Nat.le_of_ble_eq_true rfl, Nat.le_of_ble_eq_true rfl⟩) rfl hl.1 rfl (Nat.le_of_ble_eq_true rfl) dX6_readEither_70 ⟨Nat.le_of_ble_eq_true rfl, Nat.le_of_ble_eq_true rfl⟩) hW (fun L_81 h_82 H locs p_84 hW => ?_)
                obtain ⟨hT, hs⟩ := p_84
                replace hT : hx_T T_tb L_81 h_82 := hT
                replace hs : hx_S T_tb [(0, 4), (12, 0)] L_60 h_61 L_81 h_82 := hs
                replace fx_1 := (hs.o (gx.S hM) trivial rfl).1.trans fx_1
                replace fw_65 := (hs.o (gx.S hM) trivial rfl).1.trans fw_65
                replace hM := hM.tr (hs.mono (by decide))
                refine lv_aload_n hx hb dX6_readEither_73 rfl (lv_at hl 3 rfl) ?_
                refine va_ldcS (tx := P_st.getD 3 "") hx hb hown (zVR 3 (by decide)) dX6_readEither_74 ?_
                refine hx_goi (hx_runVX (As := [.ref (b0.2.2.2.1 3)]) (rest := []) ⟨hx, hb, hml, hown, hts⟩ hW (gx.S hM) tt_6 (T := TX6) (N := 7) rfl (t_X6_isNextWord l dC dI dA L_81 h_82 H.size b0 x 3 hT (gx.S hM) (by decide) qt (gqt.S hM) ((hM.o gx trivial rfl).2.trans f_x_0)) hZ (cwV 1 hts (hx_gV kw_565 kw_562 kw_564 kw_14 kw_95) rfl rfl rfl (by decide +kernel) ⟨Nat.le_of_ble_eq_true rfl, Nat.le_of_ble_eq_true rfl⟩) rfl hl.1 rfl (Nat.le_of_ble_eq_true rfl) dX6_readEither_76 ⟨Nat.le_of_ble_eq_true rfl, Nat.le_of_ble_eq_true rfl⟩) hW (fun r_88 L_86 h_87 H locs p_89 hW => ?_)
                obtain ⟨⟨w_91, fw_91, hr_90⟩, hT, hs⟩ := p_89
                replace hT : hx_T T_tb L_86 h_87 := hT
                replace hs : hx_S T_tb [(6, 2)] L_81 h_82 L_86 h_87 := hs
                replace fx_1 := (hs.o (gx.S hM) trivial rfl).1.trans fx_1
                replace hM := hM.tr (hs.mono (by decide))
                have fw_91 : h_87.2.1 x 2 = w_91 := fw_91
                have bw_91 := hT.gi (gx.S hM) tt_6 (k := 2) rfl
                rw [fw_91] at bw_91
                have bw_91 : 0 ≤ w_91.toInt ∧ w_91.toInt ≤ 402 := bw_91
                refine lv_istore_n (lv' := [(3, .int r_88), (2, .int r_62), (4, .int iv7_4), (0, .ref x), (1, .int (4 : Int32))]) hx hb dX6_readEither_79 rfl hl (by decide) rfl (fun ls hl => ?_)
                refine lv_iload_n hx hb dX6_readEither_80 rfl (lv_at hl 0 rfl) ?_
                refine hb_if_ne (zx := r_88.toInt) (tgt := 86) hx hb rfl dX6_readEither_81 (by decide) (fun c_92 => ?_) (fun c_92 => ?_)
                · skip
                  refine lv_aload_n hx hb dX6_readEither_86 rfl (lv_at hl 3 rfl) ?_
                  refine lv_dup hx hb dX6_readEither_87 rfl ?_
                  refine hk_geti hx hb hts hC_6 hown hW (gx.S hM) tt_6 2 (by decide) rfl kw_127 ⟨rfl, rfl, rfl⟩ fw_91 dX6_readEither_88 ?_
                  refine lv_iconst (v := 2) hx hb dX6_readEither_91 (by decide) ?_
                  refine lv_iadd hx hb dX6_readEither_92 ?_
                  have rg_93 := i32_r w_91
                  refine lv_topi (fun x_94 ex_94 => ?_)
                  have zx_94 : x_94.toInt = w_91.toInt + 2 := by rw [ex_94]; exact i32_add rfl (by decide) (by omega) (by omega)
                  refine hx_puti hx hb hts hC_6 hown hW hT (hx_S.rf (M := [(6, 2)])) (gx.S hM) tt_6 2 (by decide) rfl kw_127 ⟨rfl, rfl, rfl⟩ rfl (x := x_94) ⟨by omega, by omega⟩ rfl rfl rfl (List.mem_singleton.mpr rfl) dX6_readEither_93 (fun H locs h_95 eh_95 hW hT hs => ?_)
                  replace fx_1 := (hs.o (gx.S hM) trivial rfl).1.trans fx_1
                  replace hM := hM.tr (hs.mono (by decide))
                  have f_96 : h_95.2.1 x 2 = x_94 := by rw [eh_95]; exact hx_pi_at _ _ _ _
                  obtain ⟨x_97, ex_97⟩ : ∃ y : Int32, y = iv7_4 + Int32.ofInt 1 := ⟨_, rfl⟩
                  have rg_98 := i32_r iv7_4
                  have zx_97 : x_97.toInt = iv7_4.toInt + (1) := by rw [ex_97]; exact i32_add rfl (by decide) (by omega) (by omega)
                  refine lv_iinc (v := x_97) (lv' := [(4, .int x_97), (3, .int r_88), (2, .int r_62), (0, .ref x), (1, .int (4 : Int32))]) hx hb dX6_readEither_96 hl (k := 2) rfl ex_97.symm (by decide) rfl (fun ls hl => ?_)
                  refine lv_goto (tgt := 7) hx hb dX6_readEither_99 (by decide) ?_
                  exact ih7 r_62 r_88 x_97 _ _ L_86 h_95 (by omega) (by omega) (by omega) (by omega) (by omega) (by omega)  ls (by omega) hW hT hM   (lv_sub hl [0, 1, 2, 3, 4] rfl)
                · skip
                  refine lv_iconst (v := 1) hx hb dX6_readEither_84 (by decide) ?_
                  exact hx_retz hx hb hr rfl hlk hW ⟨(by decide), hT, hM⟩ dX6_readEither_85
            · skip
              refine lv_aload_n hx hb dX6_readEither_47 rfl (lv_at hl 3 rfl) ?_
              refine lv_dup hx hb dX6_readEither_48 rfl ?_
              refine hk_geti hx hb hts hC_6 hown hW (gx.S hM) tt_6 2 (by decide) rfl kw_127 ⟨rfl, rfl, rfl⟩ fw_65 dX6_readEither_49 ?_
              refine lv_iconst (v := 3) hx hb dX6_readEither_52 (by decide) ?_
              refine lv_iadd hx hb dX6_readEither_53 ?_
              have rg_99 := i32_r w_65
              refine lv_topi (fun x_100 ex_100 => ?_)
              have zx_100 : x_100.toInt = w_65.toInt + 3 := by rw [ex_100]; exact i32_add rfl (by decide) (by omega) (by omega)
              refine hx_puti hx hb hts hC_6 hown hW hT (hx_S.rf (M := [(6, 2)])) (gx.S hM) tt_6 2 (by decide) rfl kw_127 ⟨rfl, rfl, rfl⟩ rfl (x := x_100) ⟨by omega, by omega⟩ rfl rfl rfl (List.mem_singleton.mpr rfl) dX6_readEither_54 (fun H locs h_101 eh_101 hW hT hs => ?_)
              replace fx_1 := (hs.o (gx.S hM) trivial rfl).1.trans fx_1
              replace hM := hM.tr (hs.mono (by decide))
              have f_102 : h_101.2.1 x 2 = x_100 := by rw [eh_101]; exact hx_pi_at _ _ _ _
              refine lv_goto (tgt := 96) hx hb dX6_readEither_57 (by decide) ?_
              obtain ⟨x_103, ex_103⟩ : ∃ y : Int32, y = iv7_4 + Int32.ofInt 1 := ⟨_, rfl⟩
              have rg_104 := i32_r iv7_4
              have zx_103 : x_103.toInt = iv7_4.toInt + (1) := by rw [ex_103]; exact i32_add rfl (by decide) (by omega) (by omega)
              refine lv_iinc (v := x_103) (lv' := [(4, .int x_103), (2, .int r_62), (3, .int iv7_3), (0, .ref x), (1, .int (4 : Int32))]) hx hb dX6_readEither_96 hl (k := 1) rfl ex_103.symm (by decide) rfl (fun ls hl => ?_)
              refine lv_goto (tgt := 7) hx hb dX6_readEither_99 (by decide) ?_
              exact ih7 r_62 iv7_3 x_103 _ _ L_60 h_101 (by omega) (by omega) (by omega) (by omega) (by omega) (by omega)  ls (by omega) hW hT hM   (lv_sub hl [0, 2, 1, 3, 4] rfl)
  have zk_0 : (0 : Int32).toInt = 0 := by decide
  have zk_0 : (0 : Int32).toInt = 0 := by decide
  have zk_0 : (0 : Int32).toInt = 0 := by decide
  exact loop7 402 (0 : Int32) (0 : Int32) (0 : Int32) _ _ L h (by decide) (by decide) (by decide) (by decide) (by decide) (by decide)  ls (by omega) hW hT hM   hl


set_option maxHeartbeats 4000000 in
set_option maxRecDepth 100000 in
theorem t_X6_readOne_3 (l : Launch) (dC : Nat → ClassId) (dI : Nat → Nat → Nat) (dA : Nat → ClassId) (L : List Nat) (h : hx_h) (sz : Nat) (b0 : hx_z) (x : Nat) (hT : hx_T T_tb L h) (gx : hx_g L h x 6) (qt : Nat) (gqt : hx_g L h qt 42) (f_x_0 : h.2.2 x 0 = some qt) (qi : Nat) (gqi : hx_g L h qi 0) (f_x_6 : h.2.2 x 6 = some qi) : Met l yX6_readOne (Cond.code yX6_readOne cX6_readOne 3 (some .boolean) :: hx_all) ({ frames := 17, cells := 0, slots := 0, locals := 388 }) (va_Pc [.ref x, .int (3 : Int32)] (hx_BX T_tb (P_ty dA) (dC, dI) vwCl L h sz b0)) (va_Qi (fun (r : Int32) (u : List Nat × hx_h) => (r.toInt = 0 ∨ r.toInt = 1) ∧ hx_T T_tb u.1 u.2 ∧ hx_S T_tb [(0, 4), (6, 2), (6, 3), (6, 5), (12, 0)] L h u.1 u.2) (hx_E T_tb (P_ty dA) (dC, dI) vwCl (hx_A L sz)) (hx_A L sz)) 0 0 (hx_A L sz) := by
  refine hx_metX (lv := [(0, .ref x), (1, .int (3 : Int32))]) (by decide +kernel) rfl (Nat.le_of_ble_eq_true rfl) rfl ?_
  intro p e s m below meth c hx hb hml hr hlk hts0 hown hin hsz hW hZ ls hl
  have hts : ∀ w ∈ hx_all, w.before _ s = true := fun w hw => hts0 w (List.mem_cons_of_mem _ hw)
  have hown : s.vm.findClass "SmallCourt$Reader" = some m.cls := hown
  have hM : hx_S T_tb [(0, 4), (6, 2), (6, 3), (6, 5), (12, 0)] L h L h := hx_S.rf
  obtain ⟨zLT, zLA, zMT, zMA, zCS, zSF, zVS, zVR⟩ := hZ.2.2.2.2.2.2
  refine lv_aload_n hx hb dX6_readOne_0 rfl (lv_at hl 0 rfl) ?_
  refine va_ldcS (tx := P_st.getD 4 "") hx hb hown (zVR 4 (by decide)) dX6_readOne_1 ?_
  refine hx_goi (hx_runVX (As := [.ref (b0.2.2.2.1 4)]) (rest := []) ⟨hx, hb, hml, hown, hts⟩ hW (gx.S hM) tt_6 (T := TX6) (N := 7) rfl (t_X6_isNextWord l dC dI dA L h s.heap.size b0 x 4 hT (gx.S hM) (by decide) qt (gqt.S hM) ((hM.o gx trivial rfl).2.trans f_x_0)) hZ (cwV 1 hts (hx_gV kw_565 kw_562 kw_564 kw_14 kw_95) rfl rfl rfl (by decide +kernel) ⟨Nat.le_of_ble_eq_true rfl, Nat.le_of_ble_eq_true rfl⟩) rfl hl.1 rfl (Nat.le_of_ble_eq_true rfl) dX6_readOne_3 ⟨Nat.le_of_ble_eq_true rfl, Nat.le_of_ble_eq_true rfl⟩) hW (fun r_3 L_1 h_2 H locs p_4 hW => ?_)
  obtain ⟨⟨w_6, fw_6, hr_5⟩, hT, hs⟩ := p_4
  replace hT : hx_T T_tb L_1 h_2 := hT
  replace hs : hx_S T_tb [(6, 2)] L h L_1 h_2 := hs
  replace hM := hM.tr (hs.mono (by decide))
  have fw_6 : h_2.2.1 x 2 = w_6 := fw_6
  have bw_6 := hT.gi (gx.S hM) tt_6 (k := 2) rfl
  rw [fw_6] at bw_6
  have bw_6 : 0 ≤ w_6.toInt ∧ w_6.toInt ≤ 402 := bw_6
  refine lv_istore_n (lv' := [(2, .int r_3), (0, .ref x), (1, .int (3 : Int32))]) hx hb dX6_readOne_6 rfl hl (by decide) rfl (fun ls hl => ?_)
  refine lv_iload_n hx hb dX6_readOne_7 rfl (lv_at hl 0 rfl) ?_
  refine hb_if_ne (zx := r_3.toInt) (tgt := 25) hx hb rfl dX6_readOne_8 (by decide) (fun c_7 => ?_) (fun c_7 => ?_)
  · skip
    refine lv_iload_n hx hb dX6_readOne_25 rfl (lv_at hl 2 rfl) ?_
    refine lv_bipush (v := 8) hx hb dX6_readOne_26 (by decide) ?_
    refine hb_icmp_lt (zx := 3) (zy := 8) (tgt := 41) hx hb (by decide) (by decide) dX6_readOne_28 (by decide) (fun c_8 => ?_) (fun c_8 => absurd c_8 (by decide))
    refine lv_iload_n hx hb dX6_readOne_41 rfl (lv_at hl 0 rfl) ?_
    refine hb_if_eq (zx := r_3.toInt) (tgt := 78) hx hb rfl dX6_readOne_42 (by decide) (fun c_9 => by exfalso; omega) (fun c_9 => ?_)
    refine lv_aload_n hx hb dX6_readOne_45 rfl (lv_at hl 1 rfl) ?_
    refine lv_dup hx hb dX6_readOne_46 rfl ?_
    refine hk_geti hx hb hts hC_6 hown hW (gx.S hM) tt_6 2 (by decide) rfl kw_127 ⟨rfl, rfl, rfl⟩ fw_6 dX6_readOne_47 ?_
    refine lv_iconst (v := 3) hx hb dX6_readOne_50 (by decide) ?_
    refine lv_iadd hx hb dX6_readOne_51 ?_
    have rg_10 := i32_r w_6
    refine lv_topi (fun x_11 ex_11 => ?_)
    have zx_11 : x_11.toInt = w_6.toInt + 3 := by rw [ex_11]; exact i32_add rfl (by decide) (by omega) (by omega)
    refine hx_puti hx hb hts hC_6 hown hW hT (hx_S.rf (M := [(6, 2)])) (gx.S hM) tt_6 2 (by decide) rfl kw_127 ⟨rfl, rfl, rfl⟩ rfl (x := x_11) ⟨by omega, by omega⟩ rfl rfl rfl (List.mem_singleton.mpr rfl) dX6_readOne_52 (fun H locs h_12 eh_12 hW hT hs => ?_)
    replace hM := hM.tr (hs.mono (by decide))
    have f_13 : h_12.2.1 x 2 = x_11 := by rw [eh_12]; exact hx_pi_at _ _ _ _
    refine lv_aload_n hx hb dX6_readOne_55 rfl (lv_at hl 1 rfl) ?_
    refine lv_iload_n hx hb dX6_readOne_56 rfl (lv_at hl 2 rfl) ?_
    refine lv_iconst (v := 1) hx hb dX6_readOne_57 (by decide) ?_
    refine lv_iadd hx hb dX6_readOne_58 ?_
    refine lv_topi (fun x_14 ex_14 => ?_)
    obtain rfl : x_14 = (4 : Int32) := ex_14.trans (by decide)
    have zc_4 : (4 : Int32).toInt = 4 := by decide
    refine hx_goi (hx_runVX (As := [.int (4 : Int32)]) (rest := []) ⟨hx, hb, hml, hown, hts⟩ hW (gx.S hM) tt_6 (T := TX6) (N := 7) rfl (t_X6_readOne_4 l dC dI dA L_1 h_12 H.size b0 x hT (gx.S hM) qt (gqt.S hM) ((hM.o gx trivial rfl).2.trans f_x_0) qi (gqi.S hM) ((hM.o gx trivial rfl).2.trans f_x_6)) hZ (cwV 1 hts (hx_gV kw_560 kw_557 kw_559 kw_13 kw_95) rfl rfl rfl (by decide +kernel) ⟨Nat.le_of_ble_eq_true rfl, Nat.le_of_ble_eq_true rfl⟩) rfl hl.1 rfl (Nat.le_of_ble_eq_true rfl) dX6_readOne_59 ⟨Nat.le_of_ble_eq_true rfl, Nat.le_of_ble_eq_true rfl⟩) hW (fun r_17 L_15 h_16 H locs p_18 hW => ?_)
    obtain ⟨hr_19, hT, hs⟩ := p_18
    replace hT : hx_T T_tb L_15 h_16 := hT
    replace hs : hx_S T_tb [(0, 4), (6, 2), (6, 3), (6, 5), (12, 0)] L_1 h_12 L_15 h_16 := hs
    replace hM := hM.tr (hs.mono (by decide))
    refine hb_if_ne (zx := r_17.toInt) (tgt := 67) hx hb rfl dX6_readOne_62 (by decide) (fun c_20 => ?_) (fun c_20 => ?_)
    · skip
      refine lv_aload_n hx hb dX6_readOne_67 rfl (lv_at hl 1 rfl) ?_
      refine hk_getr hx hb hts hC_6 hown hW (gx.S hM) tt_6 6 (by decide) rfl kw_131 ⟨rfl, rfl, rfl⟩ ((hM.o gx trivial rfl).2.trans f_x_6) dX6_readOne_68 ?_
      refine lv_bipush (v := -3) hx hb dX6_readOne_71 (by decide) ?_
      have zc_m3 : (-3 : Int32).toInt = -3 := by decide
      refine hx_gov (hx_runV (As := [.int (-3 : Int32)]) (rest := []) ⟨hx, hb, hml, hown, hts⟩ hW (gqi.S hM) tt_0 (T := TX0) (N := 5) rfl (t_X0_addProof l dC dI dA L_15 h_16 H.size qi (-3 : Int32) hT (gqi.S hM)) (cwV 1 hts (hx_gV kw_583 kw_580 kw_581 kw_582 kw_96) rfl rfl rfl (by decide +kernel) ⟨Nat.le_of_ble_eq_true rfl, Nat.le_of_ble_eq_true rfl⟩) rfl hl.1 rfl (Nat.le_of_ble_eq_true rfl) dX6_readOne_73 ⟨Nat.le_of_ble_eq_true rfl, Nat.le_of_ble_eq_true rfl⟩) hW (fun L_21 h_22 H locs p_24 hW => ?_)
      obtain ⟨hT, hs⟩ := p_24
      replace hT : hx_T T_tb L_21 h_22 := hT
      replace hs : hx_S T_tb [(0, 4), (12, 0)] L_15 h_16 L_21 h_22 := hs
      replace hM := hM.tr (hs.mono (by decide))
      refine lv_iconst (v := 1) hx hb dX6_readOne_76 (by decide) ?_
      exact hx_retz hx hb hr rfl hlk hW ⟨(by decide), hT, hM⟩ dX6_readOne_77
    · skip
      refine lv_iconst (v := 0) hx hb dX6_readOne_65 (by decide) ?_
      exact hx_retz hx hb hr rfl hlk hW ⟨(by decide), hT, hM⟩ dX6_readOne_66
  · skip
    refine lv_aload_n hx hb dX6_readOne_11 rfl (lv_at hl 1 rfl) ?_
    refine lv_bipush (v := 40) hx hb dX6_readOne_12 (by decide) ?_
    have zc_40 : (40 : Int32).toInt = 40 := by decide
    refine hx_goi (hx_runV (As := [.int (40 : Int32)]) (rest := []) ⟨hx, hb, hml, hown, hts⟩ hW (gx.S hM) tt_6 (T := TX6) (N := 7) rfl (t_X6_isByte l dC dI dA L_1 h_2 H.size x (40 : Int32) hT (gx.S hM) w_6 fw_6 qt (gqt.S hM) ((hM.o gx trivial rfl).2.trans f_x_0)) (cwV 1 hts (hx_gV kw_569 kw_566 kw_568 kw_15 kw_95) rfl rfl rfl (by decide +kernel) ⟨Nat.le_of_ble_eq_true rfl, Nat.le_of_ble_eq_true rfl⟩) rfl hl.1 rfl (Nat.le_of_ble_eq_true rfl) dX6_readOne_14 ⟨Nat.le_of_ble_eq_true rfl, Nat.le_of_ble_eq_true rfl⟩) hW (fun r_28 L_26 h_27 H locs p_29 hW => ?_)
    obtain ⟨hr_30, hT, hs⟩ := p_29
    replace hT : hx_T T_tb L_26 h_27 := hT
    replace hs : hx_S T_tb [] L_1 h_2 L_26 h_27 := hs
    replace fw_6 := (hs.o (gx.S hM) trivial rfl).1.trans fw_6
    replace hM := hM.tr (hs.mono (by decide))
    refine hb_if_ne (zx := r_28.toInt) (tgt := 25) hx hb rfl dX6_readOne_17 (by decide) (fun c_31 => ?_) (fun c_31 => ?_)
    · skip
      refine lv_iload_n hx hb dX6_readOne_25 rfl (lv_at hl 2 rfl) ?_
      refine lv_bipush (v := 8) hx hb dX6_readOne_26 (by decide) ?_
      refine hb_icmp_lt (zx := 3) (zy := 8) (tgt := 41) hx hb (by decide) (by decide) dX6_readOne_28 (by decide) (fun c_32 => ?_) (fun c_32 => absurd c_32 (by decide))
      refine lv_iload_n hx hb dX6_readOne_41 rfl (lv_at hl 0 rfl) ?_
      refine hb_if_eq (zx := r_3.toInt) (tgt := 78) hx hb rfl dX6_readOne_42 (by decide) (fun c_33 => ?_) (fun c_33 => by exfalso; omega)
      refine lv_aload_n hx hb dX6_readOne_78 rfl (lv_at hl 1 rfl) ?_
      refine lv_dup hx hb dX6_readOne_79 rfl ?_
      refine hk_geti hx hb hts hC_6 hown hW (gx.S hM) tt_6 2 (by decide) rfl kw_127 ⟨rfl, rfl, rfl⟩ fw_6 dX6_readOne_80 ?_
      refine lv_iconst (v := 1) hx hb dX6_readOne_83 (by decide) ?_
      refine lv_iadd hx hb dX6_readOne_84 ?_
      have rg_34 := i32_r w_6
      refine lv_topi (fun x_35 ex_35 => ?_)
      have zx_35 : x_35.toInt = w_6.toInt + 1 := by rw [ex_35]; exact i32_add rfl (by decide) (by omega) (by omega)
      refine hx_puti hx hb hts hC_6 hown hW hT (hx_S.rf (M := [(6, 2)])) (gx.S hM) tt_6 2 (by decide) rfl kw_127 ⟨rfl, rfl, rfl⟩ rfl (x := x_35) ⟨by omega, by omega⟩ rfl rfl rfl (List.mem_singleton.mpr rfl) dX6_readOne_85 (fun H locs h_36 eh_36 hW hT hs => ?_)
      replace hM := hM.tr (hs.mono (by decide))
      have f_37 : h_36.2.1 x 2 = x_35 := by rw [eh_36]; exact hx_pi_at _ _ _ _
      refine lv_aload_n hx hb dX6_readOne_88 rfl (lv_at hl 1 rfl) ?_
      refine lv_iload_n hx hb dX6_readOne_89 rfl (lv_at hl 2 rfl) ?_
      refine lv_iconst (v := 1) hx hb dX6_readOne_90 (by decide) ?_
      refine lv_iadd hx hb dX6_readOne_91 ?_
      refine lv_topi (fun x_38 ex_38 => ?_)
      obtain rfl : x_38 = (4 : Int32) := ex_38.trans (by decide)
      have zc_4 : (4 : Int32).toInt = 4 := by decide
      refine hx_goi (hx_runVX (As := [.int (4 : Int32)]) (rest := []) ⟨hx, hb, hml, hown, hts⟩ hW (gx.S hM) tt_6 (T := TX6) (N := 7) rfl (t_X6_readEither_4 l dC dI dA L_26 h_36 H.size b0 x hT (gx.S hM) qt (gqt.S hM) ((hM.o gx trivial rfl).2.trans f_x_0) qi (gqi.S hM) ((hM.o gx trivial rfl).2.trans f_x_6)) hZ (cwV 1 hts (hx_gV kw_556 kw_553 kw_555 kw_12 kw_95) rfl rfl rfl (by decide +kernel) ⟨Nat.le_of_ble_eq_true rfl, Nat.le_of_ble_eq_true rfl⟩) rfl hl.1 rfl (Nat.le_of_ble_eq_true rfl) dX6_readOne_92 ⟨Nat.le_of_ble_eq_true rfl, Nat.le_of_ble_eq_true rfl⟩) hW (fun r_41 L_39 h_40 H locs p_42 hW => ?_)
      obtain ⟨hr_43, hT, hs⟩ := p_42
      replace hT : hx_T T_tb L_39 h_40 := hT
      replace hs : hx_S T_tb [(0, 4), (6, 2), (6, 3), (6, 5), (12, 0)] L_26 h_36 L_39 h_40 := hs
      replace hM := hM.tr (hs.mono (by decide))
      refine hb_if_ne (zx := r_41.toInt) (tgt := 100) hx hb rfl dX6_readOne_95 (by decide) (fun c_44 => ?_) (fun c_44 => ?_)
      · skip
        refine lv_aload_n hx hb dX6_readOne_100 rfl (lv_at hl 1 rfl) ?_
        refine hx_gov (hx_runV (As := []) (rest := []) ⟨hx, hb, hml, hown, hts⟩ hW (gx.S hM) tt_6 (T := TX6) (N := 7) rfl (t_X6_skipBlanks l dC dI dA L_39 h_40 H.size x hT (gx.S hM) qt (gqt.S hM) ((hM.o gx trivial rfl).2.trans f_x_0)) (cwV 0 hts (hx_gV kw_458 kw_455 kw_457 kw_1 kw_95) rfl rfl rfl (by decide +kernel) ⟨Nat.le_of_ble_eq_true rfl, Nat.le_of_ble_eq_true rfl⟩) rfl hl.1 rfl (Nat.le_of_ble_eq_true rfl) dX6_readOne_101 ⟨Nat.le_of_ble_eq_true rfl, Nat.le_of_ble_eq_true rfl⟩) hW (fun L_45 h_46 H locs p_48 hW => ?_)
        obtain ⟨hT, hs⟩ := p_48
        replace hT : hx_T T_tb L_45 h_46 := hT
        replace hs : hx_S T_tb [(6, 2)] L_39 h_40 L_45 h_46 := hs
        replace hM := hM.tr (hs.mono (by decide))
        refine lv_aload_n hx hb dX6_readOne_104 rfl (lv_at hl 1 rfl) ?_
        refine lv_bipush (v := 41) hx hb dX6_readOne_105 (by decide) ?_
        have zc_41 : (41 : Int32).toInt = 41 := by decide
        obtain ⟨fv_50, efv_50⟩ : ∃ y : Int32, y = h_46.2.1 x 2 := ⟨_, rfl⟩
        have bfv_50 := hT.gi (gx.S hM) tt_6 (k := 2) rfl
        rw [← efv_50] at bfv_50
        have bfv_50 : 0 ≤ fv_50.toInt ∧ fv_50.toInt ≤ 402 := bfv_50
        have ffv_50 := efv_50.symm
        refine hx_goi (hx_runV (As := [.int (41 : Int32)]) (rest := []) ⟨hx, hb, hml, hown, hts⟩ hW (gx.S hM) tt_6 (T := TX6) (N := 7) rfl (t_X6_isByte l dC dI dA L_45 h_46 H.size x (41 : Int32) hT (gx.S hM) fv_50 ffv_50 qt (gqt.S hM) ((hM.o gx trivial rfl).2.trans f_x_0)) (cwV 1 hts (hx_gV kw_569 kw_566 kw_568 kw_15 kw_95) rfl rfl rfl (by decide +kernel) ⟨Nat.le_of_ble_eq_true rfl, Nat.le_of_ble_eq_true rfl⟩) rfl hl.1 rfl (Nat.le_of_ble_eq_true rfl) dX6_readOne_107 ⟨Nat.le_of_ble_eq_true rfl, Nat.le_of_ble_eq_true rfl⟩) hW (fun r_53 L_51 h_52 H locs p_54 hW => ?_)
        obtain ⟨hr_55, hT, hs⟩ := p_54
        replace hT : hx_T T_tb L_51 h_52 := hT
        replace hs : hx_S T_tb [] L_45 h_46 L_51 h_52 := hs
        replace ffv_50 := (hs.o (gx.S hM) trivial rfl).1.trans ffv_50
        replace hM := hM.tr (hs.mono (by decide))
        refine hb_if_ne (zx := r_53.toInt) (tgt := 123) hx hb rfl dX6_readOne_110 (by decide) (fun c_56 => ?_) (fun c_56 => ?_)
        · skip
          refine lv_aload_n hx hb dX6_readOne_123 rfl (lv_at hl 1 rfl) ?_
          refine lv_dup hx hb dX6_readOne_124 rfl ?_
          refine hk_geti hx hb hts hC_6 hown hW (gx.S hM) tt_6 2 (by decide) rfl kw_127 ⟨rfl, rfl, rfl⟩ ffv_50 dX6_readOne_125 ?_
          refine lv_iconst (v := 1) hx hb dX6_readOne_128 (by decide) ?_
          refine lv_iadd hx hb dX6_readOne_129 ?_
          have rg_57 := i32_r fv_50
          refine lv_topi (fun x_58 ex_58 => ?_)
          have zx_58 : x_58.toInt = fv_50.toInt + 1 := by rw [ex_58]; exact i32_add rfl (by decide) (by omega) (by omega)
          refine hx_puti hx hb hts hC_6 hown hW hT (hx_S.rf (M := [(6, 2)])) (gx.S hM) tt_6 2 (by decide) rfl kw_127 ⟨rfl, rfl, rfl⟩ rfl (x := x_58) ⟨by omega, by omega⟩ rfl rfl rfl (List.mem_singleton.mpr rfl) dX6_readOne_130 (fun H locs h_59 eh_59 hW hT hs => ?_)
          replace hM := hM.tr (hs.mono (by decide))
          have f_60 : h_59.2.1 x 2 = x_58 := by rw [eh_59]; exact hx_pi_at _ _ _ _
          refine lv_iconst (v := 1) hx hb dX6_readOne_133 (by decide) ?_
          exact hx_retz hx hb hr rfl hlk hW ⟨(by decide), hT, hM⟩ dX6_readOne_134
        · skip
          refine lv_aload_n hx hb dX6_readOne_113 rfl (lv_at hl 1 rfl) ?_
          refine lv_aload_n hx hb dX6_readOne_114 rfl (lv_at hl 1 rfl) ?_
          refine hk_geti hx hb hts hC_6 hown hW (gx.S hM) tt_6 2 (by decide) rfl kw_127 ⟨rfl, rfl, rfl⟩ ffv_50 dX6_readOne_115 ?_
          refine lv_iconst (v := 0) hx hb dX6_readOne_118 (by decide) ?_
          have zc_0 : (0 : Int32).toInt = 0 := by decide
          refine hx_goi (hx_runV (As := [.int fv_50, .int (0 : Int32)]) (rest := []) ⟨hx, hb, hml, hown, hts⟩ hW (gx.S hM) tt_6 (T := TX6) (N := 7) rfl (t_X6_refuse l dC dI dA L_51 h_52 H.size x fv_50 (0 : Int32) hT (gx.S hM)) (cwV 2 hts (hx_gV kw_527 kw_524 kw_526 kw_6 kw_95) rfl rfl rfl (by decide +kernel) ⟨Nat.le_of_ble_eq_true rfl, Nat.le_of_ble_eq_true rfl⟩) rfl hl.1 rfl (Nat.le_of_ble_eq_true rfl) dX6_readOne_119 ⟨Nat.le_of_ble_eq_true rfl, Nat.le_of_ble_eq_true rfl⟩) hW (fun r_63 L_61 h_62 H locs p_64 hW => ?_)
          obtain ⟨hr_65, hT, hs⟩ := p_64
          replace hT : hx_T T_tb L_61 h_62 := hT
          replace hs : hx_S T_tb [(6, 3)] L_51 h_52 L_61 h_62 := hs
          replace ffv_50 := (hs.o (gx.S hM) trivial rfl).1.trans ffv_50
          replace hM := hM.tr (hs.mono (by decide))
          exact hx_retz hx hb hr (hx_nar01 (by omega)) hlk hW ⟨(by omega), hT, hM⟩ dX6_readOne_122
      · skip
        refine lv_iconst (v := 0) hx hb dX6_readOne_98 (by decide) ?_
        exact hx_retz hx hb hr rfl hlk hW ⟨(by decide), hT, hM⟩ dX6_readOne_99
    · skip
      refine lv_aload_n hx hb dX6_readOne_20 rfl (lv_at hl 1 rfl) ?_
      refine hx_goi (hx_runVX (As := []) (rest := []) ⟨hx, hb, hml, hown, hts⟩ hW (gx.S hM) tt_6 (T := TX6) (N := 7) rfl (t_X6_readTerm l dC dI dA L_26 h_27 H.size b0 x hT (gx.S hM) qt (gqt.S hM) ((hM.o gx trivial rfl).2.trans f_x_0) qi (gqi.S hM) ((hM.o gx trivial rfl).2.trans f_x_6)) hZ (cwV 0 hts (hx_gV kw_573 kw_570 kw_572 kw_16 kw_95) rfl rfl rfl (by decide +kernel) ⟨Nat.le_of_ble_eq_true rfl, Nat.le_of_ble_eq_true rfl⟩) rfl hl.1 rfl (Nat.le_of_ble_eq_true rfl) dX6_readOne_21 ⟨Nat.le_of_ble_eq_true rfl, Nat.le_of_ble_eq_true rfl⟩) hW (fun r_68 L_66 h_67 H locs p_69 hW => ?_)
      obtain ⟨hr_70, hT, hs⟩ := p_69
      replace hT : hx_T T_tb L_66 h_67 := hT
      replace hs : hx_S T_tb [(0, 4), (6, 2), (6, 3), (6, 5), (12, 0)] L_26 h_27 L_66 h_67 := hs
      replace hM := hM.tr (hs.mono (by decide))
      exact hx_retz hx hb hr (hx_nar01 (by omega)) hlk hW ⟨(by omega), hT, hM⟩ dX6_readOne_24


set_option maxHeartbeats 4000000 in
set_option maxRecDepth 100000 in
theorem t_X6_readEither_3 (l : Launch) (dC : Nat → ClassId) (dI : Nat → Nat → Nat) (dA : Nat → ClassId) (L : List Nat) (h : hx_h) (sz : Nat) (b0 : hx_z) (x : Nat) (hT : hx_T T_tb L h) (gx : hx_g L h x 6) (qt : Nat) (gqt : hx_g L h qt 42) (f_x_0 : h.2.2 x 0 = some qt) (qi : Nat) (gqi : hx_g L h qi 0) (f_x_6 : h.2.2 x 6 = some qi) : Met l yX6_readEither (Cond.code yX6_readEither cX6_readEither 5 (some .boolean) :: hx_all) ({ frames := 18, cells := 0, slots := 0, locals := 410 }) (va_Pc [.ref x, .int (3 : Int32)] (hx_BX T_tb (P_ty dA) (dC, dI) vwCl L h sz b0)) (va_Qi (fun (r : Int32) (u : List Nat × hx_h) => (r.toInt = 0 ∨ r.toInt = 1) ∧ hx_T T_tb u.1 u.2 ∧ hx_S T_tb [(0, 4), (6, 2), (6, 3), (6, 5), (12, 0)] L h u.1 u.2) (hx_E T_tb (P_ty dA) (dC, dI) vwCl (hx_A L sz)) (hx_A L sz)) 0 0 (hx_A L sz) := by
  refine hx_metX (lv := [(0, .ref x), (1, .int (3 : Int32))]) (by decide +kernel) rfl (Nat.le_of_ble_eq_true rfl) rfl ?_
  intro p e s m below meth c hx hb hml hr hlk hts0 hown hin hsz hW hZ ls hl
  have hts : ∀ w ∈ hx_all, w.before _ s = true := fun w hw => hts0 w (List.mem_cons_of_mem _ hw)
  have hown : s.vm.findClass "SmallCourt$Reader" = some m.cls := hown
  have hM : hx_S T_tb [(0, 4), (6, 2), (6, 3), (6, 5), (12, 0)] L h L h := hx_S.rf
  obtain ⟨zLT, zLA, zMT, zMA, zCS, zSF, zVS, zVR⟩ := hZ.2.2.2.2.2.2
  refine lv_iconst (v := 0) hx hb dX6_readEither_0 (by decide) ?_
  refine lv_istore_n (lv' := [(2, .int (0 : Int32)), (0, .ref x), (1, .int (3 : Int32))]) hx hb dX6_readEither_1 rfl hl (by decide) rfl (fun ls hl => ?_)
  refine lv_iconst (v := 0) hx hb dX6_readEither_2 (by decide) ?_
  refine lv_istore_n (lv' := [(3, .int (0 : Int32)), (2, .int (0 : Int32)), (0, .ref x), (1, .int (3 : Int32))]) hx hb dX6_readEither_3 rfl hl (by decide) rfl (fun ls hl => ?_)
  refine lv_iconst (v := 0) hx hb dX6_readEither_4 (by decide) ?_
  refine lv_istore (lv' := [(4, .int (0 : Int32)), (3, .int (0 : Int32)), (2, .int (0 : Int32)), (0, .ref x), (1, .int (3 : Int32))]) hx hb dX6_readEither_5 hl (by decide) rfl (fun ls hl => ?_)
  have loop7 : ∀ (n7 : Nat) (iv7_2 iv7_3 iv7_4 : Int32) (H : Heap) (locs : List Loc) (hL1 : List Nat) (hl1 : hx_h), 0 ≤ iv7_2.toInt → iv7_2.toInt ≤ 1 → 0 ≤ iv7_3.toInt → iv7_3.toInt ≤ 1 → 0 ≤ iv7_4.toInt → iv7_4.toInt ≤ 401 → ∀ (ls : Array Slot), 401 - iv7_4.toInt < (n7 : Int) → hx_W T_tb (P_ty dA) (dC, dI) vwCl (hx_A L sz) s.heap hL1 hl1 s H locs → hx_T T_tb hL1 hl1 → hx_S T_tb [(0, 4), (6, 2), (6, 3), (6, 5), (12, 0)] L h hL1 hl1 → lv_has ls 5 [(4, .int iv7_4), (3, .int iv7_3), (2, .int iv7_2), (0, .ref x), (1, .int (3 : Int32))] → W p l e ({ frames := 18, cells := 0, slots := 0, locals := 410 }) s m ([.ref x, .int (3 : Int32)] : List Value).toArray below meth c H locs 0 0 (MQ below (va_Qi (fun (r : Int32) (u : List Nat × hx_h) => (r.toInt = 0 ∨ r.toInt = 1) ∧ hx_T T_tb u.1 u.2 ∧ hx_S T_tb [(0, 4), (6, 2), (6, 3), (6, 5), (12, 0)] L h u.1 u.2) (hx_E T_tb (P_ty dA) (dC, dI) vwCl (hx_A L sz)) (hx_A L sz)) ([.ref x, .int (3 : Int32)] : List Value).toArray s 0 0 (hx_A L sz)) (F0 m 7 ls []) := by
    intro n7
    induction n7 with
    | zero => intro iv7_2 iv7_3 iv7_4 H locs hL1 hl1 bliv7_2 buiv7_2 bliv7_3 buiv7_3 bliv7_4 buiv7_4  ls hn7; exfalso; omega
    | succ n7 ih7 =>
      intro iv7_2 iv7_3 iv7_4 H locs hL1 hl1 bliv7_2 buiv7_2 bliv7_3 buiv7_3 bliv7_4 buiv7_4  ls hn7 hW hT hM   hl
      refine lv_iload hx hb dX6_readEither_7 (lv_at hl 0 rfl) ?_
      refine lv_aload_n hx hb dX6_readEither_9 rfl (lv_at hl 3 rfl) ?_
      refine hx_geti hx hb hts hC_6 hown hW hT (gx.S hM) tt_6 1 (by decide) rfl kw_126 ⟨rfl, rfl, rfl⟩ dX6_readEither_10 (fun x_1 ex_1 lx_1 ux_1 => ?_)
      have fx_1 := ex_1.symm
      refine hb_icmp_gt (zx := iv7_4.toInt) (zy := x_1.toInt) (tgt := 102) hx hb rfl rfl dX6_readEither_13 (by decide) (fun c_2 => ?_) (fun c_2 => ?_)
      · skip
        refine lv_iconst (v := 0) hx hb dX6_readEither_102 (by decide) ?_
        exact hx_retz hx hb hr rfl hlk hW ⟨(by decide), hT, hM⟩ dX6_readEither_103
      · skip
        refine lv_aload_n hx hb dX6_readEither_16 rfl (lv_at hl 3 rfl) ?_
        refine lv_iload_n hx hb dX6_readEither_17 rfl (lv_at hl 4 rfl) ?_
        have zc_3 : (3 : Int32).toInt = 3 := by decide
        refine hx_goi (hx_runVX (As := [.int (3 : Int32)]) (rest := []) ⟨hx, hb, hml, hown, hts⟩ hW (gx.S hM) tt_6 (T := TX6) (N := 7) rfl (t_X6_readOne_3 l dC dI dA hL1 hl1 H.size b0 x hT (gx.S hM) qt (gqt.S hM) ((hM.o gx trivial rfl).2.trans f_x_0) qi (gqi.S hM) ((hM.o gx trivial rfl).2.trans f_x_6)) hZ (cwV 1 hts (hx_gV kw_560 kw_557 kw_559 kw_13 kw_95) rfl rfl rfl (by decide +kernel) ⟨Nat.le_of_ble_eq_true rfl, Nat.le_of_ble_eq_true rfl⟩) rfl hl.1 rfl (Nat.le_of_ble_eq_true rfl) dX6_readEither_18 ⟨Nat.le_of_ble_eq_true rfl, Nat.le_of_ble_eq_true rfl⟩) hW (fun r_5 L_3 h_4 H locs p_6 hW => ?_)
        obtain ⟨hr_7, hT, hs⟩ := p_6
        replace hT : hx_T T_tb L_3 h_4 := hT
        replace hs : hx_S T_tb [(0, 4), (6, 2), (6, 3), (6, 5), (12, 0)] hL1 hl1 L_3 h_4 := hs
        replace fx_1 := (hs.o (gx.S hM) trivial rfl).1.trans fx_1
        replace hM := hM.tr (hs.mono (by decide))
        refine hb_if_eq (zx := r_5.toInt) (tgt := 102) hx hb rfl dX6_readEither_21 (by decide) (fun c_8 => ?_) (fun c_8 => ?_)
        · skip
          refine lv_iconst (v := 0) hx hb dX6_readEither_102 (by decide) ?_
          exact hx_retz hx hb hr rfl hlk hW ⟨(by decide), hT, hM⟩ dX6_readEither_103
        · skip
          refine lv_iload_n hx hb dX6_readEither_24 rfl (lv_at hl 2 rfl) ?_
          refine hb_if_eq (zx := iv7_2.toInt) (tgt := 36) hx hb rfl dX6_readEither_25 (by decide) (fun c_9 => ?_) (fun c_9 => ?_)
          · skip
            refine lv_aload_n hx hb dX6_readEither_36 rfl (lv_at hl 3 rfl) ?_
            refine va_ldcS (tx := P_st.getD 2 "") hx hb hown (zVR 2 (by decide)) dX6_readEither_37 ?_
            refine hx_goi (hx_runVX (As := [.ref (b0.2.2.2.1 2)]) (rest := []) ⟨hx, hb, hml, hown, hts⟩ hW (gx.S hM) tt_6 (T := TX6) (N := 7) rfl (t_X6_isNextWord l dC dI dA L_3 h_4 H.size b0 x 2 hT (gx.S hM) (by decide) qt (gqt.S hM) ((hM.o gx trivial rfl).2.trans f_x_0)) hZ (cwV 1 hts (hx_gV kw_565 kw_562 kw_564 kw_14 kw_95) rfl rfl rfl (by decide +kernel) ⟨Nat.le_of_ble_eq_true rfl, Nat.le_of_ble_eq_true rfl⟩) rfl hl.1 rfl (Nat.le_of_ble_eq_true rfl) dX6_readEither_39 ⟨Nat.le_of_ble_eq_true rfl, Nat.le_of_ble_eq_true rfl⟩) hW (fun r_12 L_10 h_11 H locs p_13 hW => ?_)
            obtain ⟨⟨w_15, fw_15, hr_14⟩, hT, hs⟩ := p_13
            replace hT : hx_T T_tb L_10 h_11 := hT
            replace hs : hx_S T_tb [(6, 2)] L_3 h_4 L_10 h_11 := hs
            replace fx_1 := (hs.o (gx.S hM) trivial rfl).1.trans fx_1
            replace hM := hM.tr (hs.mono (by decide))
            have fw_15 : h_11.2.1 x 2 = w_15 := fw_15
            have bw_15 := hT.gi (gx.S hM) tt_6 (k := 2) rfl
            rw [fw_15] at bw_15
            have bw_15 : 0 ≤ w_15.toInt ∧ w_15.toInt ≤ 402 := bw_15
            refine lv_istore_n (lv' := [(2, .int r_12), (4, .int iv7_4), (3, .int iv7_3), (0, .ref x), (1, .int (3 : Int32))]) hx hb dX6_readEither_42 rfl hl (by decide) rfl (fun ls hl => ?_)
            refine lv_iload_n hx hb dX6_readEither_43 rfl (lv_at hl 0 rfl) ?_
            refine hb_if_eq (zx := r_12.toInt) (tgt := 60) hx hb rfl dX6_readEither_44 (by decide) (fun c_16 => ?_) (fun c_16 => ?_)
            · skip
              refine lv_iload_n hx hb dX6_readEither_60 rfl (lv_at hl 2 rfl) ?_
              refine hb_if_eq (zx := iv7_3.toInt) (tgt := 73) hx hb rfl dX6_readEither_61 (by decide) (fun c_17 => ?_) (fun c_17 => ?_)
              · skip
                refine lv_aload_n hx hb dX6_readEither_73 rfl (lv_at hl 3 rfl) ?_
                refine va_ldcS (tx := P_st.getD 3 "") hx hb hown (zVR 3 (by decide)) dX6_readEither_74 ?_
                refine hx_goi (hx_runVX (As := [.ref (b0.2.2.2.1 3)]) (rest := []) ⟨hx, hb, hml, hown, hts⟩ hW (gx.S hM) tt_6 (T := TX6) (N := 7) rfl (t_X6_isNextWord l dC dI dA L_10 h_11 H.size b0 x 3 hT (gx.S hM) (by decide) qt (gqt.S hM) ((hM.o gx trivial rfl).2.trans f_x_0)) hZ (cwV 1 hts (hx_gV kw_565 kw_562 kw_564 kw_14 kw_95) rfl rfl rfl (by decide +kernel) ⟨Nat.le_of_ble_eq_true rfl, Nat.le_of_ble_eq_true rfl⟩) rfl hl.1 rfl (Nat.le_of_ble_eq_true rfl) dX6_readEither_76 ⟨Nat.le_of_ble_eq_true rfl, Nat.le_of_ble_eq_true rfl⟩) hW (fun r_20 L_18 h_19 H locs p_21 hW => ?_)
                obtain ⟨⟨w_23, fw_23, hr_22⟩, hT, hs⟩ := p_21
                replace hT : hx_T T_tb L_18 h_19 := hT
                replace hs : hx_S T_tb [(6, 2)] L_10 h_11 L_18 h_19 := hs
                replace fx_1 := (hs.o (gx.S hM) trivial rfl).1.trans fx_1
                replace hM := hM.tr (hs.mono (by decide))
                have fw_23 : h_19.2.1 x 2 = w_23 := fw_23
                have bw_23 := hT.gi (gx.S hM) tt_6 (k := 2) rfl
                rw [fw_23] at bw_23
                have bw_23 : 0 ≤ w_23.toInt ∧ w_23.toInt ≤ 402 := bw_23
                refine lv_istore_n (lv' := [(3, .int r_20), (2, .int r_12), (4, .int iv7_4), (0, .ref x), (1, .int (3 : Int32))]) hx hb dX6_readEither_79 rfl hl (by decide) rfl (fun ls hl => ?_)
                refine lv_iload_n hx hb dX6_readEither_80 rfl (lv_at hl 0 rfl) ?_
                refine hb_if_ne (zx := r_20.toInt) (tgt := 86) hx hb rfl dX6_readEither_81 (by decide) (fun c_24 => ?_) (fun c_24 => ?_)
                · skip
                  refine lv_aload_n hx hb dX6_readEither_86 rfl (lv_at hl 3 rfl) ?_
                  refine lv_dup hx hb dX6_readEither_87 rfl ?_
                  refine hk_geti hx hb hts hC_6 hown hW (gx.S hM) tt_6 2 (by decide) rfl kw_127 ⟨rfl, rfl, rfl⟩ fw_23 dX6_readEither_88 ?_
                  refine lv_iconst (v := 2) hx hb dX6_readEither_91 (by decide) ?_
                  refine lv_iadd hx hb dX6_readEither_92 ?_
                  have rg_25 := i32_r w_23
                  refine lv_topi (fun x_26 ex_26 => ?_)
                  have zx_26 : x_26.toInt = w_23.toInt + 2 := by rw [ex_26]; exact i32_add rfl (by decide) (by omega) (by omega)
                  refine hx_puti hx hb hts hC_6 hown hW hT (hx_S.rf (M := [(6, 2)])) (gx.S hM) tt_6 2 (by decide) rfl kw_127 ⟨rfl, rfl, rfl⟩ rfl (x := x_26) ⟨by omega, by omega⟩ rfl rfl rfl (List.mem_singleton.mpr rfl) dX6_readEither_93 (fun H locs h_27 eh_27 hW hT hs => ?_)
                  replace fx_1 := (hs.o (gx.S hM) trivial rfl).1.trans fx_1
                  replace hM := hM.tr (hs.mono (by decide))
                  have f_28 : h_27.2.1 x 2 = x_26 := by rw [eh_27]; exact hx_pi_at _ _ _ _
                  obtain ⟨x_29, ex_29⟩ : ∃ y : Int32, y = iv7_4 + Int32.ofInt 1 := ⟨_, rfl⟩
                  have rg_30 := i32_r iv7_4
                  have zx_29 : x_29.toInt = iv7_4.toInt + (1) := by rw [ex_29]; exact i32_add rfl (by decide) (by omega) (by omega)
                  refine lv_iinc (v := x_29) (lv' := [(4, .int x_29), (3, .int r_20), (2, .int r_12), (0, .ref x), (1, .int (3 : Int32))]) hx hb dX6_readEither_96 hl (k := 2) rfl ex_29.symm (by decide) rfl (fun ls hl => ?_)
                  refine lv_goto (tgt := 7) hx hb dX6_readEither_99 (by decide) ?_
                  exact ih7 r_12 r_20 x_29 _ _ L_18 h_27 (by omega) (by omega) (by omega) (by omega) (by omega) (by omega)  ls (by omega) hW hT hM   (lv_sub hl [0, 1, 2, 3, 4] rfl)
                · skip
                  refine lv_iconst (v := 1) hx hb dX6_readEither_84 (by decide) ?_
                  exact hx_retz hx hb hr rfl hlk hW ⟨(by decide), hT, hM⟩ dX6_readEither_85
              · skip
                refine lv_aload_n hx hb dX6_readEither_64 rfl (lv_at hl 3 rfl) ?_
                refine hk_getr hx hb hts hC_6 hown hW (gx.S hM) tt_6 6 (by decide) rfl kw_131 ⟨rfl, rfl, rfl⟩ ((hM.o gx trivial rfl).2.trans f_x_6) dX6_readEither_65 ?_
                refine lv_bipush (v := -2) hx hb dX6_readEither_68 (by decide) ?_
                have zc_m2 : (-2 : Int32).toInt = -2 := by decide
                refine hx_gov (hx_runV (As := [.int (-2 : Int32)]) (rest := []) ⟨hx, hb, hml, hown, hts⟩ hW (gqi.S hM) tt_0 (T := TX0) (N := 5) rfl (t_X0_addProof l dC dI dA L_10 h_11 H.size qi (-2 : Int32) hT (gqi.S hM)) (cwV 1 hts (hx_gV kw_583 kw_580 kw_581 kw_582 kw_96) rfl rfl rfl (by decide +kernel) ⟨Nat.le_of_ble_eq_true rfl, Nat.le_of_ble_eq_true rfl⟩) rfl hl.1 rfl (Nat.le_of_ble_eq_true rfl) dX6_readEither_70 ⟨Nat.le_of_ble_eq_true rfl, Nat.le_of_ble_eq_true rfl⟩) hW (fun L_31 h_32 H locs p_34 hW => ?_)
                obtain ⟨hT, hs⟩ := p_34
                replace hT : hx_T T_tb L_31 h_32 := hT
                replace hs : hx_S T_tb [(0, 4), (12, 0)] L_10 h_11 L_31 h_32 := hs
                replace fx_1 := (hs.o (gx.S hM) trivial rfl).1.trans fx_1
                replace fw_15 := (hs.o (gx.S hM) trivial rfl).1.trans fw_15
                replace hM := hM.tr (hs.mono (by decide))
                refine lv_aload_n hx hb dX6_readEither_73 rfl (lv_at hl 3 rfl) ?_
                refine va_ldcS (tx := P_st.getD 3 "") hx hb hown (zVR 3 (by decide)) dX6_readEither_74 ?_
                refine hx_goi (hx_runVX (As := [.ref (b0.2.2.2.1 3)]) (rest := []) ⟨hx, hb, hml, hown, hts⟩ hW (gx.S hM) tt_6 (T := TX6) (N := 7) rfl (t_X6_isNextWord l dC dI dA L_31 h_32 H.size b0 x 3 hT (gx.S hM) (by decide) qt (gqt.S hM) ((hM.o gx trivial rfl).2.trans f_x_0)) hZ (cwV 1 hts (hx_gV kw_565 kw_562 kw_564 kw_14 kw_95) rfl rfl rfl (by decide +kernel) ⟨Nat.le_of_ble_eq_true rfl, Nat.le_of_ble_eq_true rfl⟩) rfl hl.1 rfl (Nat.le_of_ble_eq_true rfl) dX6_readEither_76 ⟨Nat.le_of_ble_eq_true rfl, Nat.le_of_ble_eq_true rfl⟩) hW (fun r_38 L_36 h_37 H locs p_39 hW => ?_)
                obtain ⟨⟨w_41, fw_41, hr_40⟩, hT, hs⟩ := p_39
                replace hT : hx_T T_tb L_36 h_37 := hT
                replace hs : hx_S T_tb [(6, 2)] L_31 h_32 L_36 h_37 := hs
                replace fx_1 := (hs.o (gx.S hM) trivial rfl).1.trans fx_1
                replace hM := hM.tr (hs.mono (by decide))
                have fw_41 : h_37.2.1 x 2 = w_41 := fw_41
                have bw_41 := hT.gi (gx.S hM) tt_6 (k := 2) rfl
                rw [fw_41] at bw_41
                have bw_41 : 0 ≤ w_41.toInt ∧ w_41.toInt ≤ 402 := bw_41
                refine lv_istore_n (lv' := [(3, .int r_38), (2, .int r_12), (4, .int iv7_4), (0, .ref x), (1, .int (3 : Int32))]) hx hb dX6_readEither_79 rfl hl (by decide) rfl (fun ls hl => ?_)
                refine lv_iload_n hx hb dX6_readEither_80 rfl (lv_at hl 0 rfl) ?_
                refine hb_if_ne (zx := r_38.toInt) (tgt := 86) hx hb rfl dX6_readEither_81 (by decide) (fun c_42 => ?_) (fun c_42 => ?_)
                · skip
                  refine lv_aload_n hx hb dX6_readEither_86 rfl (lv_at hl 3 rfl) ?_
                  refine lv_dup hx hb dX6_readEither_87 rfl ?_
                  refine hk_geti hx hb hts hC_6 hown hW (gx.S hM) tt_6 2 (by decide) rfl kw_127 ⟨rfl, rfl, rfl⟩ fw_41 dX6_readEither_88 ?_
                  refine lv_iconst (v := 2) hx hb dX6_readEither_91 (by decide) ?_
                  refine lv_iadd hx hb dX6_readEither_92 ?_
                  have rg_43 := i32_r w_41
                  refine lv_topi (fun x_44 ex_44 => ?_)
                  have zx_44 : x_44.toInt = w_41.toInt + 2 := by rw [ex_44]; exact i32_add rfl (by decide) (by omega) (by omega)
                  refine hx_puti hx hb hts hC_6 hown hW hT (hx_S.rf (M := [(6, 2)])) (gx.S hM) tt_6 2 (by decide) rfl kw_127 ⟨rfl, rfl, rfl⟩ rfl (x := x_44) ⟨by omega, by omega⟩ rfl rfl rfl (List.mem_singleton.mpr rfl) dX6_readEither_93 (fun H locs h_45 eh_45 hW hT hs => ?_)
                  replace fx_1 := (hs.o (gx.S hM) trivial rfl).1.trans fx_1
                  replace hM := hM.tr (hs.mono (by decide))
                  have f_46 : h_45.2.1 x 2 = x_44 := by rw [eh_45]; exact hx_pi_at _ _ _ _
                  obtain ⟨x_47, ex_47⟩ : ∃ y : Int32, y = iv7_4 + Int32.ofInt 1 := ⟨_, rfl⟩
                  have rg_48 := i32_r iv7_4
                  have zx_47 : x_47.toInt = iv7_4.toInt + (1) := by rw [ex_47]; exact i32_add rfl (by decide) (by omega) (by omega)
                  refine lv_iinc (v := x_47) (lv' := [(4, .int x_47), (3, .int r_38), (2, .int r_12), (0, .ref x), (1, .int (3 : Int32))]) hx hb dX6_readEither_96 hl (k := 2) rfl ex_47.symm (by decide) rfl (fun ls hl => ?_)
                  refine lv_goto (tgt := 7) hx hb dX6_readEither_99 (by decide) ?_
                  exact ih7 r_12 r_38 x_47 _ _ L_36 h_45 (by omega) (by omega) (by omega) (by omega) (by omega) (by omega)  ls (by omega) hW hT hM   (lv_sub hl [0, 1, 2, 3, 4] rfl)
                · skip
                  refine lv_iconst (v := 1) hx hb dX6_readEither_84 (by decide) ?_
                  exact hx_retz hx hb hr rfl hlk hW ⟨(by decide), hT, hM⟩ dX6_readEither_85
            · skip
              refine lv_aload_n hx hb dX6_readEither_47 rfl (lv_at hl 3 rfl) ?_
              refine lv_dup hx hb dX6_readEither_48 rfl ?_
              refine hk_geti hx hb hts hC_6 hown hW (gx.S hM) tt_6 2 (by decide) rfl kw_127 ⟨rfl, rfl, rfl⟩ fw_15 dX6_readEither_49 ?_
              refine lv_iconst (v := 3) hx hb dX6_readEither_52 (by decide) ?_
              refine lv_iadd hx hb dX6_readEither_53 ?_
              have rg_49 := i32_r w_15
              refine lv_topi (fun x_50 ex_50 => ?_)
              have zx_50 : x_50.toInt = w_15.toInt + 3 := by rw [ex_50]; exact i32_add rfl (by decide) (by omega) (by omega)
              refine hx_puti hx hb hts hC_6 hown hW hT (hx_S.rf (M := [(6, 2)])) (gx.S hM) tt_6 2 (by decide) rfl kw_127 ⟨rfl, rfl, rfl⟩ rfl (x := x_50) ⟨by omega, by omega⟩ rfl rfl rfl (List.mem_singleton.mpr rfl) dX6_readEither_54 (fun H locs h_51 eh_51 hW hT hs => ?_)
              replace fx_1 := (hs.o (gx.S hM) trivial rfl).1.trans fx_1
              replace hM := hM.tr (hs.mono (by decide))
              have f_52 : h_51.2.1 x 2 = x_50 := by rw [eh_51]; exact hx_pi_at _ _ _ _
              refine lv_goto (tgt := 96) hx hb dX6_readEither_57 (by decide) ?_
              obtain ⟨x_53, ex_53⟩ : ∃ y : Int32, y = iv7_4 + Int32.ofInt 1 := ⟨_, rfl⟩
              have rg_54 := i32_r iv7_4
              have zx_53 : x_53.toInt = iv7_4.toInt + (1) := by rw [ex_53]; exact i32_add rfl (by decide) (by omega) (by omega)
              refine lv_iinc (v := x_53) (lv' := [(4, .int x_53), (2, .int r_12), (3, .int iv7_3), (0, .ref x), (1, .int (3 : Int32))]) hx hb dX6_readEither_96 hl (k := 1) rfl ex_53.symm (by decide) rfl (fun ls hl => ?_)
              refine lv_goto (tgt := 7) hx hb dX6_readEither_99 (by decide) ?_
              exact ih7 r_12 iv7_3 x_53 _ _ L_10 h_51 (by omega) (by omega) (by omega) (by omega) (by omega) (by omega)  ls (by omega) hW hT hM   (lv_sub hl [0, 2, 1, 3, 4] rfl)
          · skip
            refine lv_aload_n hx hb dX6_readEither_28 rfl (lv_at hl 3 rfl) ?_
            refine hk_getr hx hb hts hC_6 hown hW (gx.S hM) tt_6 6 (by decide) rfl kw_131 ⟨rfl, rfl, rfl⟩ ((hM.o gx trivial rfl).2.trans f_x_6) dX6_readEither_29 ?_
            refine lv_iconst (v := -1) hx hb dX6_readEither_32 (by decide) ?_
            have zc_m1 : (-1 : Int32).toInt = -1 := by decide
            refine hx_gov (hx_runV (As := [.int (-1 : Int32)]) (rest := []) ⟨hx, hb, hml, hown, hts⟩ hW (gqi.S hM) tt_0 (T := TX0) (N := 5) rfl (t_X0_addProof l dC dI dA L_3 h_4 H.size qi (-1 : Int32) hT (gqi.S hM)) (cwV 1 hts (hx_gV kw_583 kw_580 kw_581 kw_582 kw_96) rfl rfl rfl (by decide +kernel) ⟨Nat.le_of_ble_eq_true rfl, Nat.le_of_ble_eq_true rfl⟩) rfl hl.1 rfl (Nat.le_of_ble_eq_true rfl) dX6_readEither_33 ⟨Nat.le_of_ble_eq_true rfl, Nat.le_of_ble_eq_true rfl⟩) hW (fun L_55 h_56 H locs p_58 hW => ?_)
            obtain ⟨hT, hs⟩ := p_58
            replace hT : hx_T T_tb L_55 h_56 := hT
            replace hs : hx_S T_tb [(0, 4), (12, 0)] L_3 h_4 L_55 h_56 := hs
            replace fx_1 := (hs.o (gx.S hM) trivial rfl).1.trans fx_1
            replace hM := hM.tr (hs.mono (by decide))
            refine lv_aload_n hx hb dX6_readEither_36 rfl (lv_at hl 3 rfl) ?_
            refine va_ldcS (tx := P_st.getD 2 "") hx hb hown (zVR 2 (by decide)) dX6_readEither_37 ?_
            refine hx_goi (hx_runVX (As := [.ref (b0.2.2.2.1 2)]) (rest := []) ⟨hx, hb, hml, hown, hts⟩ hW (gx.S hM) tt_6 (T := TX6) (N := 7) rfl (t_X6_isNextWord l dC dI dA L_55 h_56 H.size b0 x 2 hT (gx.S hM) (by decide) qt (gqt.S hM) ((hM.o gx trivial rfl).2.trans f_x_0)) hZ (cwV 1 hts (hx_gV kw_565 kw_562 kw_564 kw_14 kw_95) rfl rfl rfl (by decide +kernel) ⟨Nat.le_of_ble_eq_true rfl, Nat.le_of_ble_eq_true rfl⟩) rfl hl.1 rfl (Nat.le_of_ble_eq_true rfl) dX6_readEither_39 ⟨Nat.le_of_ble_eq_true rfl, Nat.le_of_ble_eq_true rfl⟩) hW (fun r_62 L_60 h_61 H locs p_63 hW => ?_)
            obtain ⟨⟨w_65, fw_65, hr_64⟩, hT, hs⟩ := p_63
            replace hT : hx_T T_tb L_60 h_61 := hT
            replace hs : hx_S T_tb [(6, 2)] L_55 h_56 L_60 h_61 := hs
            replace fx_1 := (hs.o (gx.S hM) trivial rfl).1.trans fx_1
            replace hM := hM.tr (hs.mono (by decide))
            have fw_65 : h_61.2.1 x 2 = w_65 := fw_65
            have bw_65 := hT.gi (gx.S hM) tt_6 (k := 2) rfl
            rw [fw_65] at bw_65
            have bw_65 : 0 ≤ w_65.toInt ∧ w_65.toInt ≤ 402 := bw_65
            refine lv_istore_n (lv' := [(2, .int r_62), (4, .int iv7_4), (3, .int iv7_3), (0, .ref x), (1, .int (3 : Int32))]) hx hb dX6_readEither_42 rfl hl (by decide) rfl (fun ls hl => ?_)
            refine lv_iload_n hx hb dX6_readEither_43 rfl (lv_at hl 0 rfl) ?_
            refine hb_if_eq (zx := r_62.toInt) (tgt := 60) hx hb rfl dX6_readEither_44 (by decide) (fun c_66 => ?_) (fun c_66 => ?_)
            · skip
              refine lv_iload_n hx hb dX6_readEither_60 rfl (lv_at hl 2 rfl) ?_
              refine hb_if_eq (zx := iv7_3.toInt) (tgt := 73) hx hb rfl dX6_readEither_61 (by decide) (fun c_67 => ?_) (fun c_67 => ?_)
              · skip
                refine lv_aload_n hx hb dX6_readEither_73 rfl (lv_at hl 3 rfl) ?_
                refine va_ldcS (tx := P_st.getD 3 "") hx hb hown (zVR 3 (by decide)) dX6_readEither_74 ?_
                refine hx_goi (hx_runVX (As := [.ref (b0.2.2.2.1 3)]) (rest := []) ⟨hx, hb, hml, hown, hts⟩ hW (gx.S hM) tt_6 (T := TX6) (N := 7) rfl (t_X6_isNextWord l dC dI dA L_60 h_61 H.size b0 x 3 hT (gx.S hM) (by decide) qt (gqt.S hM) ((hM.o gx trivial rfl).2.trans f_x_0)) hZ (cwV 1 hts (hx_gV kw_565 kw_562 kw_564 kw_14 kw_95) rfl rfl rfl (by decide +kernel) ⟨Nat.le_of_ble_eq_true rfl, Nat.le_of_ble_eq_true rfl⟩) rfl hl.1 rfl (Nat.le_of_ble_eq_true rfl) dX6_readEither_76 ⟨Nat.le_of_ble_eq_true rfl, Nat.le_of_ble_eq_true rfl⟩) hW (fun r_70 L_68 h_69 H locs p_71 hW => ?_)
                obtain ⟨⟨w_73, fw_73, hr_72⟩, hT, hs⟩ := p_71
                replace hT : hx_T T_tb L_68 h_69 := hT
                replace hs : hx_S T_tb [(6, 2)] L_60 h_61 L_68 h_69 := hs
                replace fx_1 := (hs.o (gx.S hM) trivial rfl).1.trans fx_1
                replace hM := hM.tr (hs.mono (by decide))
                have fw_73 : h_69.2.1 x 2 = w_73 := fw_73
                have bw_73 := hT.gi (gx.S hM) tt_6 (k := 2) rfl
                rw [fw_73] at bw_73
                have bw_73 : 0 ≤ w_73.toInt ∧ w_73.toInt ≤ 402 := bw_73
                refine lv_istore_n (lv' := [(3, .int r_70), (2, .int r_62), (4, .int iv7_4), (0, .ref x), (1, .int (3 : Int32))]) hx hb dX6_readEither_79 rfl hl (by decide) rfl (fun ls hl => ?_)
                refine lv_iload_n hx hb dX6_readEither_80 rfl (lv_at hl 0 rfl) ?_
                refine hb_if_ne (zx := r_70.toInt) (tgt := 86) hx hb rfl dX6_readEither_81 (by decide) (fun c_74 => ?_) (fun c_74 => ?_)
                · skip
                  refine lv_aload_n hx hb dX6_readEither_86 rfl (lv_at hl 3 rfl) ?_
                  refine lv_dup hx hb dX6_readEither_87 rfl ?_
                  refine hk_geti hx hb hts hC_6 hown hW (gx.S hM) tt_6 2 (by decide) rfl kw_127 ⟨rfl, rfl, rfl⟩ fw_73 dX6_readEither_88 ?_
                  refine lv_iconst (v := 2) hx hb dX6_readEither_91 (by decide) ?_
                  refine lv_iadd hx hb dX6_readEither_92 ?_
                  have rg_75 := i32_r w_73
                  refine lv_topi (fun x_76 ex_76 => ?_)
                  have zx_76 : x_76.toInt = w_73.toInt + 2 := by rw [ex_76]; exact i32_add rfl (by decide) (by omega) (by omega)
                  refine hx_puti hx hb hts hC_6 hown hW hT (hx_S.rf (M := [(6, 2)])) (gx.S hM) tt_6 2 (by decide) rfl kw_127 ⟨rfl, rfl, rfl⟩ rfl (x := x_76) ⟨by omega, by omega⟩ rfl rfl rfl (List.mem_singleton.mpr rfl) dX6_readEither_93 (fun H locs h_77 eh_77 hW hT hs => ?_)
                  replace fx_1 := (hs.o (gx.S hM) trivial rfl).1.trans fx_1
                  replace hM := hM.tr (hs.mono (by decide))
                  have f_78 : h_77.2.1 x 2 = x_76 := by rw [eh_77]; exact hx_pi_at _ _ _ _
                  obtain ⟨x_79, ex_79⟩ : ∃ y : Int32, y = iv7_4 + Int32.ofInt 1 := ⟨_, rfl⟩
                  have rg_80 := i32_r iv7_4
                  have zx_79 : x_79.toInt = iv7_4.toInt + (1) := by rw [ex_79]; exact i32_add rfl (by decide) (by omega) (by omega)
                  refine lv_iinc (v := x_79) (lv' := [(4, .int x_79), (3, .int r_70), (2, .int r_62), (0, .ref x), (1, .int (3 : Int32))]) hx hb dX6_readEither_96 hl (k := 2) rfl ex_79.symm (by decide) rfl (fun ls hl => ?_)
                  refine lv_goto (tgt := 7) hx hb dX6_readEither_99 (by decide) ?_
                  exact ih7 r_62 r_70 x_79 _ _ L_68 h_77 (by omega) (by omega) (by omega) (by omega) (by omega) (by omega)  ls (by omega) hW hT hM   (lv_sub hl [0, 1, 2, 3, 4] rfl)
                · skip
                  refine lv_iconst (v := 1) hx hb dX6_readEither_84 (by decide) ?_
                  exact hx_retz hx hb hr rfl hlk hW ⟨(by decide), hT, hM⟩ dX6_readEither_85
              · skip
                refine lv_aload_n hx hb dX6_readEither_64 rfl (lv_at hl 3 rfl) ?_
                refine hk_getr hx hb hts hC_6 hown hW (gx.S hM) tt_6 6 (by decide) rfl kw_131 ⟨rfl, rfl, rfl⟩ ((hM.o gx trivial rfl).2.trans f_x_6) dX6_readEither_65 ?_
                refine lv_bipush (v := -2) hx hb dX6_readEither_68 (by decide) ?_
                have zc_m2 : (-2 : Int32).toInt = -2 := by decide
                refine hx_gov (hx_runV (As := [.int (-2 : Int32)]) (rest := []) ⟨hx, hb, hml, hown, hts⟩ hW (gqi.S hM) tt_0 (T := TX0) (N := 5) rfl (t_X0_addProof l dC dI dA L_60 h_61 H.size qi (-2 : Int32) hT (gqi.S hM)) (cwV 1 hts (hx_gV kw_583 kw_580 kw_581 kw_582 kw_96) rfl rfl rfl (by decide +kernel) ⟨Nat.le_of_ble_eq_true rfl, Nat.le_of_ble_eq_true rfl⟩) rfl hl.1 rfl (Nat.le_of_ble_eq_true rfl) dX6_readEither_70 ⟨Nat.le_of_ble_eq_true rfl, Nat.le_of_ble_eq_true rfl⟩) hW (fun L_81 h_82 H locs p_84 hW => ?_)
                obtain ⟨hT, hs⟩ := p_84
                replace hT : hx_T T_tb L_81 h_82 := hT
                replace hs : hx_S T_tb [(0, 4), (12, 0)] L_60 h_61 L_81 h_82 := hs
                replace fx_1 := (hs.o (gx.S hM) trivial rfl).1.trans fx_1
                replace fw_65 := (hs.o (gx.S hM) trivial rfl).1.trans fw_65
                replace hM := hM.tr (hs.mono (by decide))
                refine lv_aload_n hx hb dX6_readEither_73 rfl (lv_at hl 3 rfl) ?_
                refine va_ldcS (tx := P_st.getD 3 "") hx hb hown (zVR 3 (by decide)) dX6_readEither_74 ?_
                refine hx_goi (hx_runVX (As := [.ref (b0.2.2.2.1 3)]) (rest := []) ⟨hx, hb, hml, hown, hts⟩ hW (gx.S hM) tt_6 (T := TX6) (N := 7) rfl (t_X6_isNextWord l dC dI dA L_81 h_82 H.size b0 x 3 hT (gx.S hM) (by decide) qt (gqt.S hM) ((hM.o gx trivial rfl).2.trans f_x_0)) hZ (cwV 1 hts (hx_gV kw_565 kw_562 kw_564 kw_14 kw_95) rfl rfl rfl (by decide +kernel) ⟨Nat.le_of_ble_eq_true rfl, Nat.le_of_ble_eq_true rfl⟩) rfl hl.1 rfl (Nat.le_of_ble_eq_true rfl) dX6_readEither_76 ⟨Nat.le_of_ble_eq_true rfl, Nat.le_of_ble_eq_true rfl⟩) hW (fun r_88 L_86 h_87 H locs p_89 hW => ?_)
                obtain ⟨⟨w_91, fw_91, hr_90⟩, hT, hs⟩ := p_89
                replace hT : hx_T T_tb L_86 h_87 := hT
                replace hs : hx_S T_tb [(6, 2)] L_81 h_82 L_86 h_87 := hs
                replace fx_1 := (hs.o (gx.S hM) trivial rfl).1.trans fx_1
                replace hM := hM.tr (hs.mono (by decide))
                have fw_91 : h_87.2.1 x 2 = w_91 := fw_91
                have bw_91 := hT.gi (gx.S hM) tt_6 (k := 2) rfl
                rw [fw_91] at bw_91
                have bw_91 : 0 ≤ w_91.toInt ∧ w_91.toInt ≤ 402 := bw_91
                refine lv_istore_n (lv' := [(3, .int r_88), (2, .int r_62), (4, .int iv7_4), (0, .ref x), (1, .int (3 : Int32))]) hx hb dX6_readEither_79 rfl hl (by decide) rfl (fun ls hl => ?_)
                refine lv_iload_n hx hb dX6_readEither_80 rfl (lv_at hl 0 rfl) ?_
                refine hb_if_ne (zx := r_88.toInt) (tgt := 86) hx hb rfl dX6_readEither_81 (by decide) (fun c_92 => ?_) (fun c_92 => ?_)
                · skip
                  refine lv_aload_n hx hb dX6_readEither_86 rfl (lv_at hl 3 rfl) ?_
                  refine lv_dup hx hb dX6_readEither_87 rfl ?_
                  refine hk_geti hx hb hts hC_6 hown hW (gx.S hM) tt_6 2 (by decide) rfl kw_127 ⟨rfl, rfl, rfl⟩ fw_91 dX6_readEither_88 ?_
                  refine lv_iconst (v := 2) hx hb dX6_readEither_91 (by decide) ?_
                  refine lv_iadd hx hb dX6_readEither_92 ?_
                  have rg_93 := i32_r w_91
                  refine lv_topi (fun x_94 ex_94 => ?_)
                  have zx_94 : x_94.toInt = w_91.toInt + 2 := by rw [ex_94]; exact i32_add rfl (by decide) (by omega) (by omega)
                  refine hx_puti hx hb hts hC_6 hown hW hT (hx_S.rf (M := [(6, 2)])) (gx.S hM) tt_6 2 (by decide) rfl kw_127 ⟨rfl, rfl, rfl⟩ rfl (x := x_94) ⟨by omega, by omega⟩ rfl rfl rfl (List.mem_singleton.mpr rfl) dX6_readEither_93 (fun H locs h_95 eh_95 hW hT hs => ?_)
                  replace fx_1 := (hs.o (gx.S hM) trivial rfl).1.trans fx_1
                  replace hM := hM.tr (hs.mono (by decide))
                  have f_96 : h_95.2.1 x 2 = x_94 := by rw [eh_95]; exact hx_pi_at _ _ _ _
                  obtain ⟨x_97, ex_97⟩ : ∃ y : Int32, y = iv7_4 + Int32.ofInt 1 := ⟨_, rfl⟩
                  have rg_98 := i32_r iv7_4
                  have zx_97 : x_97.toInt = iv7_4.toInt + (1) := by rw [ex_97]; exact i32_add rfl (by decide) (by omega) (by omega)
                  refine lv_iinc (v := x_97) (lv' := [(4, .int x_97), (3, .int r_88), (2, .int r_62), (0, .ref x), (1, .int (3 : Int32))]) hx hb dX6_readEither_96 hl (k := 2) rfl ex_97.symm (by decide) rfl (fun ls hl => ?_)
                  refine lv_goto (tgt := 7) hx hb dX6_readEither_99 (by decide) ?_
                  exact ih7 r_62 r_88 x_97 _ _ L_86 h_95 (by omega) (by omega) (by omega) (by omega) (by omega) (by omega)  ls (by omega) hW hT hM   (lv_sub hl [0, 1, 2, 3, 4] rfl)
                · skip
                  refine lv_iconst (v := 1) hx hb dX6_readEither_84 (by decide) ?_
                  exact hx_retz hx hb hr rfl hlk hW ⟨(by decide), hT, hM⟩ dX6_readEither_85
            · skip
              refine lv_aload_n hx hb dX6_readEither_47 rfl (lv_at hl 3 rfl) ?_
              refine lv_dup hx hb dX6_readEither_48 rfl ?_
              refine hk_geti hx hb hts hC_6 hown hW (gx.S hM) tt_6 2 (by decide) rfl kw_127 ⟨rfl, rfl, rfl⟩ fw_65 dX6_readEither_49 ?_
              refine lv_iconst (v := 3) hx hb dX6_readEither_52 (by decide) ?_
              refine lv_iadd hx hb dX6_readEither_53 ?_
              have rg_99 := i32_r w_65
              refine lv_topi (fun x_100 ex_100 => ?_)
              have zx_100 : x_100.toInt = w_65.toInt + 3 := by rw [ex_100]; exact i32_add rfl (by decide) (by omega) (by omega)
              refine hx_puti hx hb hts hC_6 hown hW hT (hx_S.rf (M := [(6, 2)])) (gx.S hM) tt_6 2 (by decide) rfl kw_127 ⟨rfl, rfl, rfl⟩ rfl (x := x_100) ⟨by omega, by omega⟩ rfl rfl rfl (List.mem_singleton.mpr rfl) dX6_readEither_54 (fun H locs h_101 eh_101 hW hT hs => ?_)
              replace fx_1 := (hs.o (gx.S hM) trivial rfl).1.trans fx_1
              replace hM := hM.tr (hs.mono (by decide))
              have f_102 : h_101.2.1 x 2 = x_100 := by rw [eh_101]; exact hx_pi_at _ _ _ _
              refine lv_goto (tgt := 96) hx hb dX6_readEither_57 (by decide) ?_
              obtain ⟨x_103, ex_103⟩ : ∃ y : Int32, y = iv7_4 + Int32.ofInt 1 := ⟨_, rfl⟩
              have rg_104 := i32_r iv7_4
              have zx_103 : x_103.toInt = iv7_4.toInt + (1) := by rw [ex_103]; exact i32_add rfl (by decide) (by omega) (by omega)
              refine lv_iinc (v := x_103) (lv' := [(4, .int x_103), (2, .int r_62), (3, .int iv7_3), (0, .ref x), (1, .int (3 : Int32))]) hx hb dX6_readEither_96 hl (k := 1) rfl ex_103.symm (by decide) rfl (fun ls hl => ?_)
              refine lv_goto (tgt := 7) hx hb dX6_readEither_99 (by decide) ?_
              exact ih7 r_62 iv7_3 x_103 _ _ L_60 h_101 (by omega) (by omega) (by omega) (by omega) (by omega) (by omega)  ls (by omega) hW hT hM   (lv_sub hl [0, 2, 1, 3, 4] rfl)
  have zk_0 : (0 : Int32).toInt = 0 := by decide
  have zk_0 : (0 : Int32).toInt = 0 := by decide
  have zk_0 : (0 : Int32).toInt = 0 := by decide
  exact loop7 402 (0 : Int32) (0 : Int32) (0 : Int32) _ _ L h (by decide) (by decide) (by decide) (by decide) (by decide) (by decide)  ls (by omega) hW hT hM   hl


set_option maxHeartbeats 4000000 in
set_option maxRecDepth 100000 in
theorem t_X6_readOne_2 (l : Launch) (dC : Nat → ClassId) (dI : Nat → Nat → Nat) (dA : Nat → ClassId) (L : List Nat) (h : hx_h) (sz : Nat) (b0 : hx_z) (x : Nat) (hT : hx_T T_tb L h) (gx : hx_g L h x 6) (qt : Nat) (gqt : hx_g L h qt 42) (f_x_0 : h.2.2 x 0 = some qt) (qi : Nat) (gqi : hx_g L h qi 0) (f_x_6 : h.2.2 x 6 = some qi) : Met l yX6_readOne (Cond.code yX6_readOne cX6_readOne 3 (some .boolean) :: hx_all) ({ frames := 19, cells := 0, slots := 0, locals := 434 }) (va_Pc [.ref x, .int (2 : Int32)] (hx_BX T_tb (P_ty dA) (dC, dI) vwCl L h sz b0)) (va_Qi (fun (r : Int32) (u : List Nat × hx_h) => (r.toInt = 0 ∨ r.toInt = 1) ∧ hx_T T_tb u.1 u.2 ∧ hx_S T_tb [(0, 4), (6, 2), (6, 3), (6, 5), (12, 0)] L h u.1 u.2) (hx_E T_tb (P_ty dA) (dC, dI) vwCl (hx_A L sz)) (hx_A L sz)) 0 0 (hx_A L sz) := by
  refine hx_metX (lv := [(0, .ref x), (1, .int (2 : Int32))]) (by decide +kernel) rfl (Nat.le_of_ble_eq_true rfl) rfl ?_
  intro p e s m below meth c hx hb hml hr hlk hts0 hown hin hsz hW hZ ls hl
  have hts : ∀ w ∈ hx_all, w.before _ s = true := fun w hw => hts0 w (List.mem_cons_of_mem _ hw)
  have hown : s.vm.findClass "SmallCourt$Reader" = some m.cls := hown
  have hM : hx_S T_tb [(0, 4), (6, 2), (6, 3), (6, 5), (12, 0)] L h L h := hx_S.rf
  obtain ⟨zLT, zLA, zMT, zMA, zCS, zSF, zVS, zVR⟩ := hZ.2.2.2.2.2.2
  refine lv_aload_n hx hb dX6_readOne_0 rfl (lv_at hl 0 rfl) ?_
  refine va_ldcS (tx := P_st.getD 4 "") hx hb hown (zVR 4 (by decide)) dX6_readOne_1 ?_
  refine hx_goi (hx_runVX (As := [.ref (b0.2.2.2.1 4)]) (rest := []) ⟨hx, hb, hml, hown, hts⟩ hW (gx.S hM) tt_6 (T := TX6) (N := 7) rfl (t_X6_isNextWord l dC dI dA L h s.heap.size b0 x 4 hT (gx.S hM) (by decide) qt (gqt.S hM) ((hM.o gx trivial rfl).2.trans f_x_0)) hZ (cwV 1 hts (hx_gV kw_565 kw_562 kw_564 kw_14 kw_95) rfl rfl rfl (by decide +kernel) ⟨Nat.le_of_ble_eq_true rfl, Nat.le_of_ble_eq_true rfl⟩) rfl hl.1 rfl (Nat.le_of_ble_eq_true rfl) dX6_readOne_3 ⟨Nat.le_of_ble_eq_true rfl, Nat.le_of_ble_eq_true rfl⟩) hW (fun r_3 L_1 h_2 H locs p_4 hW => ?_)
  obtain ⟨⟨w_6, fw_6, hr_5⟩, hT, hs⟩ := p_4
  replace hT : hx_T T_tb L_1 h_2 := hT
  replace hs : hx_S T_tb [(6, 2)] L h L_1 h_2 := hs
  replace hM := hM.tr (hs.mono (by decide))
  have fw_6 : h_2.2.1 x 2 = w_6 := fw_6
  have bw_6 := hT.gi (gx.S hM) tt_6 (k := 2) rfl
  rw [fw_6] at bw_6
  have bw_6 : 0 ≤ w_6.toInt ∧ w_6.toInt ≤ 402 := bw_6
  refine lv_istore_n (lv' := [(2, .int r_3), (0, .ref x), (1, .int (2 : Int32))]) hx hb dX6_readOne_6 rfl hl (by decide) rfl (fun ls hl => ?_)
  refine lv_iload_n hx hb dX6_readOne_7 rfl (lv_at hl 0 rfl) ?_
  refine hb_if_ne (zx := r_3.toInt) (tgt := 25) hx hb rfl dX6_readOne_8 (by decide) (fun c_7 => ?_) (fun c_7 => ?_)
  · skip
    refine lv_iload_n hx hb dX6_readOne_25 rfl (lv_at hl 2 rfl) ?_
    refine lv_bipush (v := 8) hx hb dX6_readOne_26 (by decide) ?_
    refine hb_icmp_lt (zx := 2) (zy := 8) (tgt := 41) hx hb (by decide) (by decide) dX6_readOne_28 (by decide) (fun c_8 => ?_) (fun c_8 => absurd c_8 (by decide))
    refine lv_iload_n hx hb dX6_readOne_41 rfl (lv_at hl 0 rfl) ?_
    refine hb_if_eq (zx := r_3.toInt) (tgt := 78) hx hb rfl dX6_readOne_42 (by decide) (fun c_9 => by exfalso; omega) (fun c_9 => ?_)
    refine lv_aload_n hx hb dX6_readOne_45 rfl (lv_at hl 1 rfl) ?_
    refine lv_dup hx hb dX6_readOne_46 rfl ?_
    refine hk_geti hx hb hts hC_6 hown hW (gx.S hM) tt_6 2 (by decide) rfl kw_127 ⟨rfl, rfl, rfl⟩ fw_6 dX6_readOne_47 ?_
    refine lv_iconst (v := 3) hx hb dX6_readOne_50 (by decide) ?_
    refine lv_iadd hx hb dX6_readOne_51 ?_
    have rg_10 := i32_r w_6
    refine lv_topi (fun x_11 ex_11 => ?_)
    have zx_11 : x_11.toInt = w_6.toInt + 3 := by rw [ex_11]; exact i32_add rfl (by decide) (by omega) (by omega)
    refine hx_puti hx hb hts hC_6 hown hW hT (hx_S.rf (M := [(6, 2)])) (gx.S hM) tt_6 2 (by decide) rfl kw_127 ⟨rfl, rfl, rfl⟩ rfl (x := x_11) ⟨by omega, by omega⟩ rfl rfl rfl (List.mem_singleton.mpr rfl) dX6_readOne_52 (fun H locs h_12 eh_12 hW hT hs => ?_)
    replace hM := hM.tr (hs.mono (by decide))
    have f_13 : h_12.2.1 x 2 = x_11 := by rw [eh_12]; exact hx_pi_at _ _ _ _
    refine lv_aload_n hx hb dX6_readOne_55 rfl (lv_at hl 1 rfl) ?_
    refine lv_iload_n hx hb dX6_readOne_56 rfl (lv_at hl 2 rfl) ?_
    refine lv_iconst (v := 1) hx hb dX6_readOne_57 (by decide) ?_
    refine lv_iadd hx hb dX6_readOne_58 ?_
    refine lv_topi (fun x_14 ex_14 => ?_)
    obtain rfl : x_14 = (3 : Int32) := ex_14.trans (by decide)
    have zc_3 : (3 : Int32).toInt = 3 := by decide
    refine hx_goi (hx_runVX (As := [.int (3 : Int32)]) (rest := []) ⟨hx, hb, hml, hown, hts⟩ hW (gx.S hM) tt_6 (T := TX6) (N := 7) rfl (t_X6_readOne_3 l dC dI dA L_1 h_12 H.size b0 x hT (gx.S hM) qt (gqt.S hM) ((hM.o gx trivial rfl).2.trans f_x_0) qi (gqi.S hM) ((hM.o gx trivial rfl).2.trans f_x_6)) hZ (cwV 1 hts (hx_gV kw_560 kw_557 kw_559 kw_13 kw_95) rfl rfl rfl (by decide +kernel) ⟨Nat.le_of_ble_eq_true rfl, Nat.le_of_ble_eq_true rfl⟩) rfl hl.1 rfl (Nat.le_of_ble_eq_true rfl) dX6_readOne_59 ⟨Nat.le_of_ble_eq_true rfl, Nat.le_of_ble_eq_true rfl⟩) hW (fun r_17 L_15 h_16 H locs p_18 hW => ?_)
    obtain ⟨hr_19, hT, hs⟩ := p_18
    replace hT : hx_T T_tb L_15 h_16 := hT
    replace hs : hx_S T_tb [(0, 4), (6, 2), (6, 3), (6, 5), (12, 0)] L_1 h_12 L_15 h_16 := hs
    replace hM := hM.tr (hs.mono (by decide))
    refine hb_if_ne (zx := r_17.toInt) (tgt := 67) hx hb rfl dX6_readOne_62 (by decide) (fun c_20 => ?_) (fun c_20 => ?_)
    · skip
      refine lv_aload_n hx hb dX6_readOne_67 rfl (lv_at hl 1 rfl) ?_
      refine hk_getr hx hb hts hC_6 hown hW (gx.S hM) tt_6 6 (by decide) rfl kw_131 ⟨rfl, rfl, rfl⟩ ((hM.o gx trivial rfl).2.trans f_x_6) dX6_readOne_68 ?_
      refine lv_bipush (v := -3) hx hb dX6_readOne_71 (by decide) ?_
      have zc_m3 : (-3 : Int32).toInt = -3 := by decide
      refine hx_gov (hx_runV (As := [.int (-3 : Int32)]) (rest := []) ⟨hx, hb, hml, hown, hts⟩ hW (gqi.S hM) tt_0 (T := TX0) (N := 5) rfl (t_X0_addProof l dC dI dA L_15 h_16 H.size qi (-3 : Int32) hT (gqi.S hM)) (cwV 1 hts (hx_gV kw_583 kw_580 kw_581 kw_582 kw_96) rfl rfl rfl (by decide +kernel) ⟨Nat.le_of_ble_eq_true rfl, Nat.le_of_ble_eq_true rfl⟩) rfl hl.1 rfl (Nat.le_of_ble_eq_true rfl) dX6_readOne_73 ⟨Nat.le_of_ble_eq_true rfl, Nat.le_of_ble_eq_true rfl⟩) hW (fun L_21 h_22 H locs p_24 hW => ?_)
      obtain ⟨hT, hs⟩ := p_24
      replace hT : hx_T T_tb L_21 h_22 := hT
      replace hs : hx_S T_tb [(0, 4), (12, 0)] L_15 h_16 L_21 h_22 := hs
      replace hM := hM.tr (hs.mono (by decide))
      refine lv_iconst (v := 1) hx hb dX6_readOne_76 (by decide) ?_
      exact hx_retz hx hb hr rfl hlk hW ⟨(by decide), hT, hM⟩ dX6_readOne_77
    · skip
      refine lv_iconst (v := 0) hx hb dX6_readOne_65 (by decide) ?_
      exact hx_retz hx hb hr rfl hlk hW ⟨(by decide), hT, hM⟩ dX6_readOne_66
  · skip
    refine lv_aload_n hx hb dX6_readOne_11 rfl (lv_at hl 1 rfl) ?_
    refine lv_bipush (v := 40) hx hb dX6_readOne_12 (by decide) ?_
    have zc_40 : (40 : Int32).toInt = 40 := by decide
    refine hx_goi (hx_runV (As := [.int (40 : Int32)]) (rest := []) ⟨hx, hb, hml, hown, hts⟩ hW (gx.S hM) tt_6 (T := TX6) (N := 7) rfl (t_X6_isByte l dC dI dA L_1 h_2 H.size x (40 : Int32) hT (gx.S hM) w_6 fw_6 qt (gqt.S hM) ((hM.o gx trivial rfl).2.trans f_x_0)) (cwV 1 hts (hx_gV kw_569 kw_566 kw_568 kw_15 kw_95) rfl rfl rfl (by decide +kernel) ⟨Nat.le_of_ble_eq_true rfl, Nat.le_of_ble_eq_true rfl⟩) rfl hl.1 rfl (Nat.le_of_ble_eq_true rfl) dX6_readOne_14 ⟨Nat.le_of_ble_eq_true rfl, Nat.le_of_ble_eq_true rfl⟩) hW (fun r_28 L_26 h_27 H locs p_29 hW => ?_)
    obtain ⟨hr_30, hT, hs⟩ := p_29
    replace hT : hx_T T_tb L_26 h_27 := hT
    replace hs : hx_S T_tb [] L_1 h_2 L_26 h_27 := hs
    replace fw_6 := (hs.o (gx.S hM) trivial rfl).1.trans fw_6
    replace hM := hM.tr (hs.mono (by decide))
    refine hb_if_ne (zx := r_28.toInt) (tgt := 25) hx hb rfl dX6_readOne_17 (by decide) (fun c_31 => ?_) (fun c_31 => ?_)
    · skip
      refine lv_iload_n hx hb dX6_readOne_25 rfl (lv_at hl 2 rfl) ?_
      refine lv_bipush (v := 8) hx hb dX6_readOne_26 (by decide) ?_
      refine hb_icmp_lt (zx := 2) (zy := 8) (tgt := 41) hx hb (by decide) (by decide) dX6_readOne_28 (by decide) (fun c_32 => ?_) (fun c_32 => absurd c_32 (by decide))
      refine lv_iload_n hx hb dX6_readOne_41 rfl (lv_at hl 0 rfl) ?_
      refine hb_if_eq (zx := r_3.toInt) (tgt := 78) hx hb rfl dX6_readOne_42 (by decide) (fun c_33 => ?_) (fun c_33 => by exfalso; omega)
      refine lv_aload_n hx hb dX6_readOne_78 rfl (lv_at hl 1 rfl) ?_
      refine lv_dup hx hb dX6_readOne_79 rfl ?_
      refine hk_geti hx hb hts hC_6 hown hW (gx.S hM) tt_6 2 (by decide) rfl kw_127 ⟨rfl, rfl, rfl⟩ fw_6 dX6_readOne_80 ?_
      refine lv_iconst (v := 1) hx hb dX6_readOne_83 (by decide) ?_
      refine lv_iadd hx hb dX6_readOne_84 ?_
      have rg_34 := i32_r w_6
      refine lv_topi (fun x_35 ex_35 => ?_)
      have zx_35 : x_35.toInt = w_6.toInt + 1 := by rw [ex_35]; exact i32_add rfl (by decide) (by omega) (by omega)
      refine hx_puti hx hb hts hC_6 hown hW hT (hx_S.rf (M := [(6, 2)])) (gx.S hM) tt_6 2 (by decide) rfl kw_127 ⟨rfl, rfl, rfl⟩ rfl (x := x_35) ⟨by omega, by omega⟩ rfl rfl rfl (List.mem_singleton.mpr rfl) dX6_readOne_85 (fun H locs h_36 eh_36 hW hT hs => ?_)
      replace hM := hM.tr (hs.mono (by decide))
      have f_37 : h_36.2.1 x 2 = x_35 := by rw [eh_36]; exact hx_pi_at _ _ _ _
      refine lv_aload_n hx hb dX6_readOne_88 rfl (lv_at hl 1 rfl) ?_
      refine lv_iload_n hx hb dX6_readOne_89 rfl (lv_at hl 2 rfl) ?_
      refine lv_iconst (v := 1) hx hb dX6_readOne_90 (by decide) ?_
      refine lv_iadd hx hb dX6_readOne_91 ?_
      refine lv_topi (fun x_38 ex_38 => ?_)
      obtain rfl : x_38 = (3 : Int32) := ex_38.trans (by decide)
      have zc_3 : (3 : Int32).toInt = 3 := by decide
      refine hx_goi (hx_runVX (As := [.int (3 : Int32)]) (rest := []) ⟨hx, hb, hml, hown, hts⟩ hW (gx.S hM) tt_6 (T := TX6) (N := 7) rfl (t_X6_readEither_3 l dC dI dA L_26 h_36 H.size b0 x hT (gx.S hM) qt (gqt.S hM) ((hM.o gx trivial rfl).2.trans f_x_0) qi (gqi.S hM) ((hM.o gx trivial rfl).2.trans f_x_6)) hZ (cwV 1 hts (hx_gV kw_556 kw_553 kw_555 kw_12 kw_95) rfl rfl rfl (by decide +kernel) ⟨Nat.le_of_ble_eq_true rfl, Nat.le_of_ble_eq_true rfl⟩) rfl hl.1 rfl (Nat.le_of_ble_eq_true rfl) dX6_readOne_92 ⟨Nat.le_of_ble_eq_true rfl, Nat.le_of_ble_eq_true rfl⟩) hW (fun r_41 L_39 h_40 H locs p_42 hW => ?_)
      obtain ⟨hr_43, hT, hs⟩ := p_42
      replace hT : hx_T T_tb L_39 h_40 := hT
      replace hs : hx_S T_tb [(0, 4), (6, 2), (6, 3), (6, 5), (12, 0)] L_26 h_36 L_39 h_40 := hs
      replace hM := hM.tr (hs.mono (by decide))
      refine hb_if_ne (zx := r_41.toInt) (tgt := 100) hx hb rfl dX6_readOne_95 (by decide) (fun c_44 => ?_) (fun c_44 => ?_)
      · skip
        refine lv_aload_n hx hb dX6_readOne_100 rfl (lv_at hl 1 rfl) ?_
        refine hx_gov (hx_runV (As := []) (rest := []) ⟨hx, hb, hml, hown, hts⟩ hW (gx.S hM) tt_6 (T := TX6) (N := 7) rfl (t_X6_skipBlanks l dC dI dA L_39 h_40 H.size x hT (gx.S hM) qt (gqt.S hM) ((hM.o gx trivial rfl).2.trans f_x_0)) (cwV 0 hts (hx_gV kw_458 kw_455 kw_457 kw_1 kw_95) rfl rfl rfl (by decide +kernel) ⟨Nat.le_of_ble_eq_true rfl, Nat.le_of_ble_eq_true rfl⟩) rfl hl.1 rfl (Nat.le_of_ble_eq_true rfl) dX6_readOne_101 ⟨Nat.le_of_ble_eq_true rfl, Nat.le_of_ble_eq_true rfl⟩) hW (fun L_45 h_46 H locs p_48 hW => ?_)
        obtain ⟨hT, hs⟩ := p_48
        replace hT : hx_T T_tb L_45 h_46 := hT
        replace hs : hx_S T_tb [(6, 2)] L_39 h_40 L_45 h_46 := hs
        replace hM := hM.tr (hs.mono (by decide))
        refine lv_aload_n hx hb dX6_readOne_104 rfl (lv_at hl 1 rfl) ?_
        refine lv_bipush (v := 41) hx hb dX6_readOne_105 (by decide) ?_
        have zc_41 : (41 : Int32).toInt = 41 := by decide
        obtain ⟨fv_50, efv_50⟩ : ∃ y : Int32, y = h_46.2.1 x 2 := ⟨_, rfl⟩
        have bfv_50 := hT.gi (gx.S hM) tt_6 (k := 2) rfl
        rw [← efv_50] at bfv_50
        have bfv_50 : 0 ≤ fv_50.toInt ∧ fv_50.toInt ≤ 402 := bfv_50
        have ffv_50 := efv_50.symm
        refine hx_goi (hx_runV (As := [.int (41 : Int32)]) (rest := []) ⟨hx, hb, hml, hown, hts⟩ hW (gx.S hM) tt_6 (T := TX6) (N := 7) rfl (t_X6_isByte l dC dI dA L_45 h_46 H.size x (41 : Int32) hT (gx.S hM) fv_50 ffv_50 qt (gqt.S hM) ((hM.o gx trivial rfl).2.trans f_x_0)) (cwV 1 hts (hx_gV kw_569 kw_566 kw_568 kw_15 kw_95) rfl rfl rfl (by decide +kernel) ⟨Nat.le_of_ble_eq_true rfl, Nat.le_of_ble_eq_true rfl⟩) rfl hl.1 rfl (Nat.le_of_ble_eq_true rfl) dX6_readOne_107 ⟨Nat.le_of_ble_eq_true rfl, Nat.le_of_ble_eq_true rfl⟩) hW (fun r_53 L_51 h_52 H locs p_54 hW => ?_)
        obtain ⟨hr_55, hT, hs⟩ := p_54
        replace hT : hx_T T_tb L_51 h_52 := hT
        replace hs : hx_S T_tb [] L_45 h_46 L_51 h_52 := hs
        replace ffv_50 := (hs.o (gx.S hM) trivial rfl).1.trans ffv_50
        replace hM := hM.tr (hs.mono (by decide))
        refine hb_if_ne (zx := r_53.toInt) (tgt := 123) hx hb rfl dX6_readOne_110 (by decide) (fun c_56 => ?_) (fun c_56 => ?_)
        · skip
          refine lv_aload_n hx hb dX6_readOne_123 rfl (lv_at hl 1 rfl) ?_
          refine lv_dup hx hb dX6_readOne_124 rfl ?_
          refine hk_geti hx hb hts hC_6 hown hW (gx.S hM) tt_6 2 (by decide) rfl kw_127 ⟨rfl, rfl, rfl⟩ ffv_50 dX6_readOne_125 ?_
          refine lv_iconst (v := 1) hx hb dX6_readOne_128 (by decide) ?_
          refine lv_iadd hx hb dX6_readOne_129 ?_
          have rg_57 := i32_r fv_50
          refine lv_topi (fun x_58 ex_58 => ?_)
          have zx_58 : x_58.toInt = fv_50.toInt + 1 := by rw [ex_58]; exact i32_add rfl (by decide) (by omega) (by omega)
          refine hx_puti hx hb hts hC_6 hown hW hT (hx_S.rf (M := [(6, 2)])) (gx.S hM) tt_6 2 (by decide) rfl kw_127 ⟨rfl, rfl, rfl⟩ rfl (x := x_58) ⟨by omega, by omega⟩ rfl rfl rfl (List.mem_singleton.mpr rfl) dX6_readOne_130 (fun H locs h_59 eh_59 hW hT hs => ?_)
          replace hM := hM.tr (hs.mono (by decide))
          have f_60 : h_59.2.1 x 2 = x_58 := by rw [eh_59]; exact hx_pi_at _ _ _ _
          refine lv_iconst (v := 1) hx hb dX6_readOne_133 (by decide) ?_
          exact hx_retz hx hb hr rfl hlk hW ⟨(by decide), hT, hM⟩ dX6_readOne_134
        · skip
          refine lv_aload_n hx hb dX6_readOne_113 rfl (lv_at hl 1 rfl) ?_
          refine lv_aload_n hx hb dX6_readOne_114 rfl (lv_at hl 1 rfl) ?_
          refine hk_geti hx hb hts hC_6 hown hW (gx.S hM) tt_6 2 (by decide) rfl kw_127 ⟨rfl, rfl, rfl⟩ ffv_50 dX6_readOne_115 ?_
          refine lv_iconst (v := 0) hx hb dX6_readOne_118 (by decide) ?_
          have zc_0 : (0 : Int32).toInt = 0 := by decide
          refine hx_goi (hx_runV (As := [.int fv_50, .int (0 : Int32)]) (rest := []) ⟨hx, hb, hml, hown, hts⟩ hW (gx.S hM) tt_6 (T := TX6) (N := 7) rfl (t_X6_refuse l dC dI dA L_51 h_52 H.size x fv_50 (0 : Int32) hT (gx.S hM)) (cwV 2 hts (hx_gV kw_527 kw_524 kw_526 kw_6 kw_95) rfl rfl rfl (by decide +kernel) ⟨Nat.le_of_ble_eq_true rfl, Nat.le_of_ble_eq_true rfl⟩) rfl hl.1 rfl (Nat.le_of_ble_eq_true rfl) dX6_readOne_119 ⟨Nat.le_of_ble_eq_true rfl, Nat.le_of_ble_eq_true rfl⟩) hW (fun r_63 L_61 h_62 H locs p_64 hW => ?_)
          obtain ⟨hr_65, hT, hs⟩ := p_64
          replace hT : hx_T T_tb L_61 h_62 := hT
          replace hs : hx_S T_tb [(6, 3)] L_51 h_52 L_61 h_62 := hs
          replace ffv_50 := (hs.o (gx.S hM) trivial rfl).1.trans ffv_50
          replace hM := hM.tr (hs.mono (by decide))
          exact hx_retz hx hb hr (hx_nar01 (by omega)) hlk hW ⟨(by omega), hT, hM⟩ dX6_readOne_122
      · skip
        refine lv_iconst (v := 0) hx hb dX6_readOne_98 (by decide) ?_
        exact hx_retz hx hb hr rfl hlk hW ⟨(by decide), hT, hM⟩ dX6_readOne_99
    · skip
      refine lv_aload_n hx hb dX6_readOne_20 rfl (lv_at hl 1 rfl) ?_
      refine hx_goi (hx_runVX (As := []) (rest := []) ⟨hx, hb, hml, hown, hts⟩ hW (gx.S hM) tt_6 (T := TX6) (N := 7) rfl (t_X6_readTerm l dC dI dA L_26 h_27 H.size b0 x hT (gx.S hM) qt (gqt.S hM) ((hM.o gx trivial rfl).2.trans f_x_0) qi (gqi.S hM) ((hM.o gx trivial rfl).2.trans f_x_6)) hZ (cwV 0 hts (hx_gV kw_573 kw_570 kw_572 kw_16 kw_95) rfl rfl rfl (by decide +kernel) ⟨Nat.le_of_ble_eq_true rfl, Nat.le_of_ble_eq_true rfl⟩) rfl hl.1 rfl (Nat.le_of_ble_eq_true rfl) dX6_readOne_21 ⟨Nat.le_of_ble_eq_true rfl, Nat.le_of_ble_eq_true rfl⟩) hW (fun r_68 L_66 h_67 H locs p_69 hW => ?_)
      obtain ⟨hr_70, hT, hs⟩ := p_69
      replace hT : hx_T T_tb L_66 h_67 := hT
      replace hs : hx_S T_tb [(0, 4), (6, 2), (6, 3), (6, 5), (12, 0)] L_26 h_27 L_66 h_67 := hs
      replace hM := hM.tr (hs.mono (by decide))
      exact hx_retz hx hb hr (hx_nar01 (by omega)) hlk hW ⟨(by omega), hT, hM⟩ dX6_readOne_24


set_option maxHeartbeats 4000000 in
set_option maxRecDepth 100000 in
theorem t_X6_readEither_2 (l : Launch) (dC : Nat → ClassId) (dI : Nat → Nat → Nat) (dA : Nat → ClassId) (L : List Nat) (h : hx_h) (sz : Nat) (b0 : hx_z) (x : Nat) (hT : hx_T T_tb L h) (gx : hx_g L h x 6) (qt : Nat) (gqt : hx_g L h qt 42) (f_x_0 : h.2.2 x 0 = some qt) (qi : Nat) (gqi : hx_g L h qi 0) (f_x_6 : h.2.2 x 6 = some qi) : Met l yX6_readEither (Cond.code yX6_readEither cX6_readEither 5 (some .boolean) :: hx_all) ({ frames := 20, cells := 0, slots := 0, locals := 456 }) (va_Pc [.ref x, .int (2 : Int32)] (hx_BX T_tb (P_ty dA) (dC, dI) vwCl L h sz b0)) (va_Qi (fun (r : Int32) (u : List Nat × hx_h) => (r.toInt = 0 ∨ r.toInt = 1) ∧ hx_T T_tb u.1 u.2 ∧ hx_S T_tb [(0, 4), (6, 2), (6, 3), (6, 5), (12, 0)] L h u.1 u.2) (hx_E T_tb (P_ty dA) (dC, dI) vwCl (hx_A L sz)) (hx_A L sz)) 0 0 (hx_A L sz) := by
  refine hx_metX (lv := [(0, .ref x), (1, .int (2 : Int32))]) (by decide +kernel) rfl (Nat.le_of_ble_eq_true rfl) rfl ?_
  intro p e s m below meth c hx hb hml hr hlk hts0 hown hin hsz hW hZ ls hl
  have hts : ∀ w ∈ hx_all, w.before _ s = true := fun w hw => hts0 w (List.mem_cons_of_mem _ hw)
  have hown : s.vm.findClass "SmallCourt$Reader" = some m.cls := hown
  have hM : hx_S T_tb [(0, 4), (6, 2), (6, 3), (6, 5), (12, 0)] L h L h := hx_S.rf
  obtain ⟨zLT, zLA, zMT, zMA, zCS, zSF, zVS, zVR⟩ := hZ.2.2.2.2.2.2
  refine lv_iconst (v := 0) hx hb dX6_readEither_0 (by decide) ?_
  refine lv_istore_n (lv' := [(2, .int (0 : Int32)), (0, .ref x), (1, .int (2 : Int32))]) hx hb dX6_readEither_1 rfl hl (by decide) rfl (fun ls hl => ?_)
  refine lv_iconst (v := 0) hx hb dX6_readEither_2 (by decide) ?_
  refine lv_istore_n (lv' := [(3, .int (0 : Int32)), (2, .int (0 : Int32)), (0, .ref x), (1, .int (2 : Int32))]) hx hb dX6_readEither_3 rfl hl (by decide) rfl (fun ls hl => ?_)
  refine lv_iconst (v := 0) hx hb dX6_readEither_4 (by decide) ?_
  refine lv_istore (lv' := [(4, .int (0 : Int32)), (3, .int (0 : Int32)), (2, .int (0 : Int32)), (0, .ref x), (1, .int (2 : Int32))]) hx hb dX6_readEither_5 hl (by decide) rfl (fun ls hl => ?_)
  have loop7 : ∀ (n7 : Nat) (iv7_2 iv7_3 iv7_4 : Int32) (H : Heap) (locs : List Loc) (hL1 : List Nat) (hl1 : hx_h), 0 ≤ iv7_2.toInt → iv7_2.toInt ≤ 1 → 0 ≤ iv7_3.toInt → iv7_3.toInt ≤ 1 → 0 ≤ iv7_4.toInt → iv7_4.toInt ≤ 401 → ∀ (ls : Array Slot), 401 - iv7_4.toInt < (n7 : Int) → hx_W T_tb (P_ty dA) (dC, dI) vwCl (hx_A L sz) s.heap hL1 hl1 s H locs → hx_T T_tb hL1 hl1 → hx_S T_tb [(0, 4), (6, 2), (6, 3), (6, 5), (12, 0)] L h hL1 hl1 → lv_has ls 5 [(4, .int iv7_4), (3, .int iv7_3), (2, .int iv7_2), (0, .ref x), (1, .int (2 : Int32))] → W p l e ({ frames := 20, cells := 0, slots := 0, locals := 456 }) s m ([.ref x, .int (2 : Int32)] : List Value).toArray below meth c H locs 0 0 (MQ below (va_Qi (fun (r : Int32) (u : List Nat × hx_h) => (r.toInt = 0 ∨ r.toInt = 1) ∧ hx_T T_tb u.1 u.2 ∧ hx_S T_tb [(0, 4), (6, 2), (6, 3), (6, 5), (12, 0)] L h u.1 u.2) (hx_E T_tb (P_ty dA) (dC, dI) vwCl (hx_A L sz)) (hx_A L sz)) ([.ref x, .int (2 : Int32)] : List Value).toArray s 0 0 (hx_A L sz)) (F0 m 7 ls []) := by
    intro n7
    induction n7 with
    | zero => intro iv7_2 iv7_3 iv7_4 H locs hL1 hl1 bliv7_2 buiv7_2 bliv7_3 buiv7_3 bliv7_4 buiv7_4  ls hn7; exfalso; omega
    | succ n7 ih7 =>
      intro iv7_2 iv7_3 iv7_4 H locs hL1 hl1 bliv7_2 buiv7_2 bliv7_3 buiv7_3 bliv7_4 buiv7_4  ls hn7 hW hT hM   hl
      refine lv_iload hx hb dX6_readEither_7 (lv_at hl 0 rfl) ?_
      refine lv_aload_n hx hb dX6_readEither_9 rfl (lv_at hl 3 rfl) ?_
      refine hx_geti hx hb hts hC_6 hown hW hT (gx.S hM) tt_6 1 (by decide) rfl kw_126 ⟨rfl, rfl, rfl⟩ dX6_readEither_10 (fun x_1 ex_1 lx_1 ux_1 => ?_)
      have fx_1 := ex_1.symm
      refine hb_icmp_gt (zx := iv7_4.toInt) (zy := x_1.toInt) (tgt := 102) hx hb rfl rfl dX6_readEither_13 (by decide) (fun c_2 => ?_) (fun c_2 => ?_)
      · skip
        refine lv_iconst (v := 0) hx hb dX6_readEither_102 (by decide) ?_
        exact hx_retz hx hb hr rfl hlk hW ⟨(by decide), hT, hM⟩ dX6_readEither_103
      · skip
        refine lv_aload_n hx hb dX6_readEither_16 rfl (lv_at hl 3 rfl) ?_
        refine lv_iload_n hx hb dX6_readEither_17 rfl (lv_at hl 4 rfl) ?_
        have zc_2 : (2 : Int32).toInt = 2 := by decide
        refine hx_goi (hx_runVX (As := [.int (2 : Int32)]) (rest := []) ⟨hx, hb, hml, hown, hts⟩ hW (gx.S hM) tt_6 (T := TX6) (N := 7) rfl (t_X6_readOne_2 l dC dI dA hL1 hl1 H.size b0 x hT (gx.S hM) qt (gqt.S hM) ((hM.o gx trivial rfl).2.trans f_x_0) qi (gqi.S hM) ((hM.o gx trivial rfl).2.trans f_x_6)) hZ (cwV 1 hts (hx_gV kw_560 kw_557 kw_559 kw_13 kw_95) rfl rfl rfl (by decide +kernel) ⟨Nat.le_of_ble_eq_true rfl, Nat.le_of_ble_eq_true rfl⟩) rfl hl.1 rfl (Nat.le_of_ble_eq_true rfl) dX6_readEither_18 ⟨Nat.le_of_ble_eq_true rfl, Nat.le_of_ble_eq_true rfl⟩) hW (fun r_5 L_3 h_4 H locs p_6 hW => ?_)
        obtain ⟨hr_7, hT, hs⟩ := p_6
        replace hT : hx_T T_tb L_3 h_4 := hT
        replace hs : hx_S T_tb [(0, 4), (6, 2), (6, 3), (6, 5), (12, 0)] hL1 hl1 L_3 h_4 := hs
        replace fx_1 := (hs.o (gx.S hM) trivial rfl).1.trans fx_1
        replace hM := hM.tr (hs.mono (by decide))
        refine hb_if_eq (zx := r_5.toInt) (tgt := 102) hx hb rfl dX6_readEither_21 (by decide) (fun c_8 => ?_) (fun c_8 => ?_)
        · skip
          refine lv_iconst (v := 0) hx hb dX6_readEither_102 (by decide) ?_
          exact hx_retz hx hb hr rfl hlk hW ⟨(by decide), hT, hM⟩ dX6_readEither_103
        · skip
          refine lv_iload_n hx hb dX6_readEither_24 rfl (lv_at hl 2 rfl) ?_
          refine hb_if_eq (zx := iv7_2.toInt) (tgt := 36) hx hb rfl dX6_readEither_25 (by decide) (fun c_9 => ?_) (fun c_9 => ?_)
          · skip
            refine lv_aload_n hx hb dX6_readEither_36 rfl (lv_at hl 3 rfl) ?_
            refine va_ldcS (tx := P_st.getD 2 "") hx hb hown (zVR 2 (by decide)) dX6_readEither_37 ?_
            refine hx_goi (hx_runVX (As := [.ref (b0.2.2.2.1 2)]) (rest := []) ⟨hx, hb, hml, hown, hts⟩ hW (gx.S hM) tt_6 (T := TX6) (N := 7) rfl (t_X6_isNextWord l dC dI dA L_3 h_4 H.size b0 x 2 hT (gx.S hM) (by decide) qt (gqt.S hM) ((hM.o gx trivial rfl).2.trans f_x_0)) hZ (cwV 1 hts (hx_gV kw_565 kw_562 kw_564 kw_14 kw_95) rfl rfl rfl (by decide +kernel) ⟨Nat.le_of_ble_eq_true rfl, Nat.le_of_ble_eq_true rfl⟩) rfl hl.1 rfl (Nat.le_of_ble_eq_true rfl) dX6_readEither_39 ⟨Nat.le_of_ble_eq_true rfl, Nat.le_of_ble_eq_true rfl⟩) hW (fun r_12 L_10 h_11 H locs p_13 hW => ?_)
            obtain ⟨⟨w_15, fw_15, hr_14⟩, hT, hs⟩ := p_13
            replace hT : hx_T T_tb L_10 h_11 := hT
            replace hs : hx_S T_tb [(6, 2)] L_3 h_4 L_10 h_11 := hs
            replace fx_1 := (hs.o (gx.S hM) trivial rfl).1.trans fx_1
            replace hM := hM.tr (hs.mono (by decide))
            have fw_15 : h_11.2.1 x 2 = w_15 := fw_15
            have bw_15 := hT.gi (gx.S hM) tt_6 (k := 2) rfl
            rw [fw_15] at bw_15
            have bw_15 : 0 ≤ w_15.toInt ∧ w_15.toInt ≤ 402 := bw_15
            refine lv_istore_n (lv' := [(2, .int r_12), (4, .int iv7_4), (3, .int iv7_3), (0, .ref x), (1, .int (2 : Int32))]) hx hb dX6_readEither_42 rfl hl (by decide) rfl (fun ls hl => ?_)
            refine lv_iload_n hx hb dX6_readEither_43 rfl (lv_at hl 0 rfl) ?_
            refine hb_if_eq (zx := r_12.toInt) (tgt := 60) hx hb rfl dX6_readEither_44 (by decide) (fun c_16 => ?_) (fun c_16 => ?_)
            · skip
              refine lv_iload_n hx hb dX6_readEither_60 rfl (lv_at hl 2 rfl) ?_
              refine hb_if_eq (zx := iv7_3.toInt) (tgt := 73) hx hb rfl dX6_readEither_61 (by decide) (fun c_17 => ?_) (fun c_17 => ?_)
              · skip
                refine lv_aload_n hx hb dX6_readEither_73 rfl (lv_at hl 3 rfl) ?_
                refine va_ldcS (tx := P_st.getD 3 "") hx hb hown (zVR 3 (by decide)) dX6_readEither_74 ?_
                refine hx_goi (hx_runVX (As := [.ref (b0.2.2.2.1 3)]) (rest := []) ⟨hx, hb, hml, hown, hts⟩ hW (gx.S hM) tt_6 (T := TX6) (N := 7) rfl (t_X6_isNextWord l dC dI dA L_10 h_11 H.size b0 x 3 hT (gx.S hM) (by decide) qt (gqt.S hM) ((hM.o gx trivial rfl).2.trans f_x_0)) hZ (cwV 1 hts (hx_gV kw_565 kw_562 kw_564 kw_14 kw_95) rfl rfl rfl (by decide +kernel) ⟨Nat.le_of_ble_eq_true rfl, Nat.le_of_ble_eq_true rfl⟩) rfl hl.1 rfl (Nat.le_of_ble_eq_true rfl) dX6_readEither_76 ⟨Nat.le_of_ble_eq_true rfl, Nat.le_of_ble_eq_true rfl⟩) hW (fun r_20 L_18 h_19 H locs p_21 hW => ?_)
                obtain ⟨⟨w_23, fw_23, hr_22⟩, hT, hs⟩ := p_21
                replace hT : hx_T T_tb L_18 h_19 := hT
                replace hs : hx_S T_tb [(6, 2)] L_10 h_11 L_18 h_19 := hs
                replace fx_1 := (hs.o (gx.S hM) trivial rfl).1.trans fx_1
                replace hM := hM.tr (hs.mono (by decide))
                have fw_23 : h_19.2.1 x 2 = w_23 := fw_23
                have bw_23 := hT.gi (gx.S hM) tt_6 (k := 2) rfl
                rw [fw_23] at bw_23
                have bw_23 : 0 ≤ w_23.toInt ∧ w_23.toInt ≤ 402 := bw_23
                refine lv_istore_n (lv' := [(3, .int r_20), (2, .int r_12), (4, .int iv7_4), (0, .ref x), (1, .int (2 : Int32))]) hx hb dX6_readEither_79 rfl hl (by decide) rfl (fun ls hl => ?_)
                refine lv_iload_n hx hb dX6_readEither_80 rfl (lv_at hl 0 rfl) ?_
                refine hb_if_ne (zx := r_20.toInt) (tgt := 86) hx hb rfl dX6_readEither_81 (by decide) (fun c_24 => ?_) (fun c_24 => ?_)
                · skip
                  refine lv_aload_n hx hb dX6_readEither_86 rfl (lv_at hl 3 rfl) ?_
                  refine lv_dup hx hb dX6_readEither_87 rfl ?_
                  refine hk_geti hx hb hts hC_6 hown hW (gx.S hM) tt_6 2 (by decide) rfl kw_127 ⟨rfl, rfl, rfl⟩ fw_23 dX6_readEither_88 ?_
                  refine lv_iconst (v := 2) hx hb dX6_readEither_91 (by decide) ?_
                  refine lv_iadd hx hb dX6_readEither_92 ?_
                  have rg_25 := i32_r w_23
                  refine lv_topi (fun x_26 ex_26 => ?_)
                  have zx_26 : x_26.toInt = w_23.toInt + 2 := by rw [ex_26]; exact i32_add rfl (by decide) (by omega) (by omega)
                  refine hx_puti hx hb hts hC_6 hown hW hT (hx_S.rf (M := [(6, 2)])) (gx.S hM) tt_6 2 (by decide) rfl kw_127 ⟨rfl, rfl, rfl⟩ rfl (x := x_26) ⟨by omega, by omega⟩ rfl rfl rfl (List.mem_singleton.mpr rfl) dX6_readEither_93 (fun H locs h_27 eh_27 hW hT hs => ?_)
                  replace fx_1 := (hs.o (gx.S hM) trivial rfl).1.trans fx_1
                  replace hM := hM.tr (hs.mono (by decide))
                  have f_28 : h_27.2.1 x 2 = x_26 := by rw [eh_27]; exact hx_pi_at _ _ _ _
                  obtain ⟨x_29, ex_29⟩ : ∃ y : Int32, y = iv7_4 + Int32.ofInt 1 := ⟨_, rfl⟩
                  have rg_30 := i32_r iv7_4
                  have zx_29 : x_29.toInt = iv7_4.toInt + (1) := by rw [ex_29]; exact i32_add rfl (by decide) (by omega) (by omega)
                  refine lv_iinc (v := x_29) (lv' := [(4, .int x_29), (3, .int r_20), (2, .int r_12), (0, .ref x), (1, .int (2 : Int32))]) hx hb dX6_readEither_96 hl (k := 2) rfl ex_29.symm (by decide) rfl (fun ls hl => ?_)
                  refine lv_goto (tgt := 7) hx hb dX6_readEither_99 (by decide) ?_
                  exact ih7 r_12 r_20 x_29 _ _ L_18 h_27 (by omega) (by omega) (by omega) (by omega) (by omega) (by omega)  ls (by omega) hW hT hM   (lv_sub hl [0, 1, 2, 3, 4] rfl)
                · skip
                  refine lv_iconst (v := 1) hx hb dX6_readEither_84 (by decide) ?_
                  exact hx_retz hx hb hr rfl hlk hW ⟨(by decide), hT, hM⟩ dX6_readEither_85
              · skip
                refine lv_aload_n hx hb dX6_readEither_64 rfl (lv_at hl 3 rfl) ?_
                refine hk_getr hx hb hts hC_6 hown hW (gx.S hM) tt_6 6 (by decide) rfl kw_131 ⟨rfl, rfl, rfl⟩ ((hM.o gx trivial rfl).2.trans f_x_6) dX6_readEither_65 ?_
                refine lv_bipush (v := -2) hx hb dX6_readEither_68 (by decide) ?_
                have zc_m2 : (-2 : Int32).toInt = -2 := by decide
                refine hx_gov (hx_runV (As := [.int (-2 : Int32)]) (rest := []) ⟨hx, hb, hml, hown, hts⟩ hW (gqi.S hM) tt_0 (T := TX0) (N := 5) rfl (t_X0_addProof l dC dI dA L_10 h_11 H.size qi (-2 : Int32) hT (gqi.S hM)) (cwV 1 hts (hx_gV kw_583 kw_580 kw_581 kw_582 kw_96) rfl rfl rfl (by decide +kernel) ⟨Nat.le_of_ble_eq_true rfl, Nat.le_of_ble_eq_true rfl⟩) rfl hl.1 rfl (Nat.le_of_ble_eq_true rfl) dX6_readEither_70 ⟨Nat.le_of_ble_eq_true rfl, Nat.le_of_ble_eq_true rfl⟩) hW (fun L_31 h_32 H locs p_34 hW => ?_)
                obtain ⟨hT, hs⟩ := p_34
                replace hT : hx_T T_tb L_31 h_32 := hT
                replace hs : hx_S T_tb [(0, 4), (12, 0)] L_10 h_11 L_31 h_32 := hs
                replace fx_1 := (hs.o (gx.S hM) trivial rfl).1.trans fx_1
                replace fw_15 := (hs.o (gx.S hM) trivial rfl).1.trans fw_15
                replace hM := hM.tr (hs.mono (by decide))
                refine lv_aload_n hx hb dX6_readEither_73 rfl (lv_at hl 3 rfl) ?_
                refine va_ldcS (tx := P_st.getD 3 "") hx hb hown (zVR 3 (by decide)) dX6_readEither_74 ?_
                refine hx_goi (hx_runVX (As := [.ref (b0.2.2.2.1 3)]) (rest := []) ⟨hx, hb, hml, hown, hts⟩ hW (gx.S hM) tt_6 (T := TX6) (N := 7) rfl (t_X6_isNextWord l dC dI dA L_31 h_32 H.size b0 x 3 hT (gx.S hM) (by decide) qt (gqt.S hM) ((hM.o gx trivial rfl).2.trans f_x_0)) hZ (cwV 1 hts (hx_gV kw_565 kw_562 kw_564 kw_14 kw_95) rfl rfl rfl (by decide +kernel) ⟨Nat.le_of_ble_eq_true rfl, Nat.le_of_ble_eq_true rfl⟩) rfl hl.1 rfl (Nat.le_of_ble_eq_true rfl) dX6_readEither_76 ⟨Nat.le_of_ble_eq_true rfl, Nat.le_of_ble_eq_true rfl⟩) hW (fun r_38 L_36 h_37 H locs p_39 hW => ?_)
                obtain ⟨⟨w_41, fw_41, hr_40⟩, hT, hs⟩ := p_39
                replace hT : hx_T T_tb L_36 h_37 := hT
                replace hs : hx_S T_tb [(6, 2)] L_31 h_32 L_36 h_37 := hs
                replace fx_1 := (hs.o (gx.S hM) trivial rfl).1.trans fx_1
                replace hM := hM.tr (hs.mono (by decide))
                have fw_41 : h_37.2.1 x 2 = w_41 := fw_41
                have bw_41 := hT.gi (gx.S hM) tt_6 (k := 2) rfl
                rw [fw_41] at bw_41
                have bw_41 : 0 ≤ w_41.toInt ∧ w_41.toInt ≤ 402 := bw_41
                refine lv_istore_n (lv' := [(3, .int r_38), (2, .int r_12), (4, .int iv7_4), (0, .ref x), (1, .int (2 : Int32))]) hx hb dX6_readEither_79 rfl hl (by decide) rfl (fun ls hl => ?_)
                refine lv_iload_n hx hb dX6_readEither_80 rfl (lv_at hl 0 rfl) ?_
                refine hb_if_ne (zx := r_38.toInt) (tgt := 86) hx hb rfl dX6_readEither_81 (by decide) (fun c_42 => ?_) (fun c_42 => ?_)
                · skip
                  refine lv_aload_n hx hb dX6_readEither_86 rfl (lv_at hl 3 rfl) ?_
                  refine lv_dup hx hb dX6_readEither_87 rfl ?_
                  refine hk_geti hx hb hts hC_6 hown hW (gx.S hM) tt_6 2 (by decide) rfl kw_127 ⟨rfl, rfl, rfl⟩ fw_41 dX6_readEither_88 ?_
                  refine lv_iconst (v := 2) hx hb dX6_readEither_91 (by decide) ?_
                  refine lv_iadd hx hb dX6_readEither_92 ?_
                  have rg_43 := i32_r w_41
                  refine lv_topi (fun x_44 ex_44 => ?_)
                  have zx_44 : x_44.toInt = w_41.toInt + 2 := by rw [ex_44]; exact i32_add rfl (by decide) (by omega) (by omega)
                  refine hx_puti hx hb hts hC_6 hown hW hT (hx_S.rf (M := [(6, 2)])) (gx.S hM) tt_6 2 (by decide) rfl kw_127 ⟨rfl, rfl, rfl⟩ rfl (x := x_44) ⟨by omega, by omega⟩ rfl rfl rfl (List.mem_singleton.mpr rfl) dX6_readEither_93 (fun H locs h_45 eh_45 hW hT hs => ?_)
                  replace fx_1 := (hs.o (gx.S hM) trivial rfl).1.trans fx_1
                  replace hM := hM.tr (hs.mono (by decide))
                  have f_46 : h_45.2.1 x 2 = x_44 := by rw [eh_45]; exact hx_pi_at _ _ _ _
                  obtain ⟨x_47, ex_47⟩ : ∃ y : Int32, y = iv7_4 + Int32.ofInt 1 := ⟨_, rfl⟩
                  have rg_48 := i32_r iv7_4
                  have zx_47 : x_47.toInt = iv7_4.toInt + (1) := by rw [ex_47]; exact i32_add rfl (by decide) (by omega) (by omega)
                  refine lv_iinc (v := x_47) (lv' := [(4, .int x_47), (3, .int r_38), (2, .int r_12), (0, .ref x), (1, .int (2 : Int32))]) hx hb dX6_readEither_96 hl (k := 2) rfl ex_47.symm (by decide) rfl (fun ls hl => ?_)
                  refine lv_goto (tgt := 7) hx hb dX6_readEither_99 (by decide) ?_
                  exact ih7 r_12 r_38 x_47 _ _ L_36 h_45 (by omega) (by omega) (by omega) (by omega) (by omega) (by omega)  ls (by omega) hW hT hM   (lv_sub hl [0, 1, 2, 3, 4] rfl)
                · skip
                  refine lv_iconst (v := 1) hx hb dX6_readEither_84 (by decide) ?_
                  exact hx_retz hx hb hr rfl hlk hW ⟨(by decide), hT, hM⟩ dX6_readEither_85
            · skip
              refine lv_aload_n hx hb dX6_readEither_47 rfl (lv_at hl 3 rfl) ?_
              refine lv_dup hx hb dX6_readEither_48 rfl ?_
              refine hk_geti hx hb hts hC_6 hown hW (gx.S hM) tt_6 2 (by decide) rfl kw_127 ⟨rfl, rfl, rfl⟩ fw_15 dX6_readEither_49 ?_
              refine lv_iconst (v := 3) hx hb dX6_readEither_52 (by decide) ?_
              refine lv_iadd hx hb dX6_readEither_53 ?_
              have rg_49 := i32_r w_15
              refine lv_topi (fun x_50 ex_50 => ?_)
              have zx_50 : x_50.toInt = w_15.toInt + 3 := by rw [ex_50]; exact i32_add rfl (by decide) (by omega) (by omega)
              refine hx_puti hx hb hts hC_6 hown hW hT (hx_S.rf (M := [(6, 2)])) (gx.S hM) tt_6 2 (by decide) rfl kw_127 ⟨rfl, rfl, rfl⟩ rfl (x := x_50) ⟨by omega, by omega⟩ rfl rfl rfl (List.mem_singleton.mpr rfl) dX6_readEither_54 (fun H locs h_51 eh_51 hW hT hs => ?_)
              replace fx_1 := (hs.o (gx.S hM) trivial rfl).1.trans fx_1
              replace hM := hM.tr (hs.mono (by decide))
              have f_52 : h_51.2.1 x 2 = x_50 := by rw [eh_51]; exact hx_pi_at _ _ _ _
              refine lv_goto (tgt := 96) hx hb dX6_readEither_57 (by decide) ?_
              obtain ⟨x_53, ex_53⟩ : ∃ y : Int32, y = iv7_4 + Int32.ofInt 1 := ⟨_, rfl⟩
              have rg_54 := i32_r iv7_4
              have zx_53 : x_53.toInt = iv7_4.toInt + (1) := by rw [ex_53]; exact i32_add rfl (by decide) (by omega) (by omega)
              refine lv_iinc (v := x_53) (lv' := [(4, .int x_53), (2, .int r_12), (3, .int iv7_3), (0, .ref x), (1, .int (2 : Int32))]) hx hb dX6_readEither_96 hl (k := 1) rfl ex_53.symm (by decide) rfl (fun ls hl => ?_)
              refine lv_goto (tgt := 7) hx hb dX6_readEither_99 (by decide) ?_
              exact ih7 r_12 iv7_3 x_53 _ _ L_10 h_51 (by omega) (by omega) (by omega) (by omega) (by omega) (by omega)  ls (by omega) hW hT hM   (lv_sub hl [0, 2, 1, 3, 4] rfl)
          · skip
            refine lv_aload_n hx hb dX6_readEither_28 rfl (lv_at hl 3 rfl) ?_
            refine hk_getr hx hb hts hC_6 hown hW (gx.S hM) tt_6 6 (by decide) rfl kw_131 ⟨rfl, rfl, rfl⟩ ((hM.o gx trivial rfl).2.trans f_x_6) dX6_readEither_29 ?_
            refine lv_iconst (v := -1) hx hb dX6_readEither_32 (by decide) ?_
            have zc_m1 : (-1 : Int32).toInt = -1 := by decide
            refine hx_gov (hx_runV (As := [.int (-1 : Int32)]) (rest := []) ⟨hx, hb, hml, hown, hts⟩ hW (gqi.S hM) tt_0 (T := TX0) (N := 5) rfl (t_X0_addProof l dC dI dA L_3 h_4 H.size qi (-1 : Int32) hT (gqi.S hM)) (cwV 1 hts (hx_gV kw_583 kw_580 kw_581 kw_582 kw_96) rfl rfl rfl (by decide +kernel) ⟨Nat.le_of_ble_eq_true rfl, Nat.le_of_ble_eq_true rfl⟩) rfl hl.1 rfl (Nat.le_of_ble_eq_true rfl) dX6_readEither_33 ⟨Nat.le_of_ble_eq_true rfl, Nat.le_of_ble_eq_true rfl⟩) hW (fun L_55 h_56 H locs p_58 hW => ?_)
            obtain ⟨hT, hs⟩ := p_58
            replace hT : hx_T T_tb L_55 h_56 := hT
            replace hs : hx_S T_tb [(0, 4), (12, 0)] L_3 h_4 L_55 h_56 := hs
            replace fx_1 := (hs.o (gx.S hM) trivial rfl).1.trans fx_1
            replace hM := hM.tr (hs.mono (by decide))
            refine lv_aload_n hx hb dX6_readEither_36 rfl (lv_at hl 3 rfl) ?_
            refine va_ldcS (tx := P_st.getD 2 "") hx hb hown (zVR 2 (by decide)) dX6_readEither_37 ?_
            refine hx_goi (hx_runVX (As := [.ref (b0.2.2.2.1 2)]) (rest := []) ⟨hx, hb, hml, hown, hts⟩ hW (gx.S hM) tt_6 (T := TX6) (N := 7) rfl (t_X6_isNextWord l dC dI dA L_55 h_56 H.size b0 x 2 hT (gx.S hM) (by decide) qt (gqt.S hM) ((hM.o gx trivial rfl).2.trans f_x_0)) hZ (cwV 1 hts (hx_gV kw_565 kw_562 kw_564 kw_14 kw_95) rfl rfl rfl (by decide +kernel) ⟨Nat.le_of_ble_eq_true rfl, Nat.le_of_ble_eq_true rfl⟩) rfl hl.1 rfl (Nat.le_of_ble_eq_true rfl) dX6_readEither_39 ⟨Nat.le_of_ble_eq_true rfl, Nat.le_of_ble_eq_true rfl⟩) hW (fun r_62 L_60 h_61 H locs p_63 hW => ?_)
            obtain ⟨⟨w_65, fw_65, hr_64⟩, hT, hs⟩ := p_63
            replace hT : hx_T T_tb L_60 h_61 := hT
            replace hs : hx_S T_tb [(6, 2)] L_55 h_56 L_60 h_61 := hs
            replace fx_1 := (hs.o (gx.S hM) trivial rfl).1.trans fx_1
            replace hM := hM.tr (hs.mono (by decide))
            have fw_65 : h_61.2.1 x 2 = w_65 := fw_65
            have bw_65 := hT.gi (gx.S hM) tt_6 (k := 2) rfl
            rw [fw_65] at bw_65
            have bw_65 : 0 ≤ w_65.toInt ∧ w_65.toInt ≤ 402 := bw_65
            refine lv_istore_n (lv' := [(2, .int r_62), (4, .int iv7_4), (3, .int iv7_3), (0, .ref x), (1, .int (2 : Int32))]) hx hb dX6_readEither_42 rfl hl (by decide) rfl (fun ls hl => ?_)
            refine lv_iload_n hx hb dX6_readEither_43 rfl (lv_at hl 0 rfl) ?_
            refine hb_if_eq (zx := r_62.toInt) (tgt := 60) hx hb rfl dX6_readEither_44 (by decide) (fun c_66 => ?_) (fun c_66 => ?_)
            · skip
              refine lv_iload_n hx hb dX6_readEither_60 rfl (lv_at hl 2 rfl) ?_
              refine hb_if_eq (zx := iv7_3.toInt) (tgt := 73) hx hb rfl dX6_readEither_61 (by decide) (fun c_67 => ?_) (fun c_67 => ?_)
              · skip
                refine lv_aload_n hx hb dX6_readEither_73 rfl (lv_at hl 3 rfl) ?_
                refine va_ldcS (tx := P_st.getD 3 "") hx hb hown (zVR 3 (by decide)) dX6_readEither_74 ?_
                refine hx_goi (hx_runVX (As := [.ref (b0.2.2.2.1 3)]) (rest := []) ⟨hx, hb, hml, hown, hts⟩ hW (gx.S hM) tt_6 (T := TX6) (N := 7) rfl (t_X6_isNextWord l dC dI dA L_60 h_61 H.size b0 x 3 hT (gx.S hM) (by decide) qt (gqt.S hM) ((hM.o gx trivial rfl).2.trans f_x_0)) hZ (cwV 1 hts (hx_gV kw_565 kw_562 kw_564 kw_14 kw_95) rfl rfl rfl (by decide +kernel) ⟨Nat.le_of_ble_eq_true rfl, Nat.le_of_ble_eq_true rfl⟩) rfl hl.1 rfl (Nat.le_of_ble_eq_true rfl) dX6_readEither_76 ⟨Nat.le_of_ble_eq_true rfl, Nat.le_of_ble_eq_true rfl⟩) hW (fun r_70 L_68 h_69 H locs p_71 hW => ?_)
                obtain ⟨⟨w_73, fw_73, hr_72⟩, hT, hs⟩ := p_71
                replace hT : hx_T T_tb L_68 h_69 := hT
                replace hs : hx_S T_tb [(6, 2)] L_60 h_61 L_68 h_69 := hs
                replace fx_1 := (hs.o (gx.S hM) trivial rfl).1.trans fx_1
                replace hM := hM.tr (hs.mono (by decide))
                have fw_73 : h_69.2.1 x 2 = w_73 := fw_73
                have bw_73 := hT.gi (gx.S hM) tt_6 (k := 2) rfl
                rw [fw_73] at bw_73
                have bw_73 : 0 ≤ w_73.toInt ∧ w_73.toInt ≤ 402 := bw_73
                refine lv_istore_n (lv' := [(3, .int r_70), (2, .int r_62), (4, .int iv7_4), (0, .ref x), (1, .int (2 : Int32))]) hx hb dX6_readEither_79 rfl hl (by decide) rfl (fun ls hl => ?_)
                refine lv_iload_n hx hb dX6_readEither_80 rfl (lv_at hl 0 rfl) ?_
                refine hb_if_ne (zx := r_70.toInt) (tgt := 86) hx hb rfl dX6_readEither_81 (by decide) (fun c_74 => ?_) (fun c_74 => ?_)
                · skip
                  refine lv_aload_n hx hb dX6_readEither_86 rfl (lv_at hl 3 rfl) ?_
                  refine lv_dup hx hb dX6_readEither_87 rfl ?_
                  refine hk_geti hx hb hts hC_6 hown hW (gx.S hM) tt_6 2 (by decide) rfl kw_127 ⟨rfl, rfl, rfl⟩ fw_73 dX6_readEither_88 ?_
                  refine lv_iconst (v := 2) hx hb dX6_readEither_91 (by decide) ?_
                  refine lv_iadd hx hb dX6_readEither_92 ?_
                  have rg_75 := i32_r w_73
                  refine lv_topi (fun x_76 ex_76 => ?_)
                  have zx_76 : x_76.toInt = w_73.toInt + 2 := by rw [ex_76]; exact i32_add rfl (by decide) (by omega) (by omega)
                  refine hx_puti hx hb hts hC_6 hown hW hT (hx_S.rf (M := [(6, 2)])) (gx.S hM) tt_6 2 (by decide) rfl kw_127 ⟨rfl, rfl, rfl⟩ rfl (x := x_76) ⟨by omega, by omega⟩ rfl rfl rfl (List.mem_singleton.mpr rfl) dX6_readEither_93 (fun H locs h_77 eh_77 hW hT hs => ?_)
                  replace fx_1 := (hs.o (gx.S hM) trivial rfl).1.trans fx_1
                  replace hM := hM.tr (hs.mono (by decide))
                  have f_78 : h_77.2.1 x 2 = x_76 := by rw [eh_77]; exact hx_pi_at _ _ _ _
                  obtain ⟨x_79, ex_79⟩ : ∃ y : Int32, y = iv7_4 + Int32.ofInt 1 := ⟨_, rfl⟩
                  have rg_80 := i32_r iv7_4
                  have zx_79 : x_79.toInt = iv7_4.toInt + (1) := by rw [ex_79]; exact i32_add rfl (by decide) (by omega) (by omega)
                  refine lv_iinc (v := x_79) (lv' := [(4, .int x_79), (3, .int r_70), (2, .int r_62), (0, .ref x), (1, .int (2 : Int32))]) hx hb dX6_readEither_96 hl (k := 2) rfl ex_79.symm (by decide) rfl (fun ls hl => ?_)
                  refine lv_goto (tgt := 7) hx hb dX6_readEither_99 (by decide) ?_
                  exact ih7 r_62 r_70 x_79 _ _ L_68 h_77 (by omega) (by omega) (by omega) (by omega) (by omega) (by omega)  ls (by omega) hW hT hM   (lv_sub hl [0, 1, 2, 3, 4] rfl)
                · skip
                  refine lv_iconst (v := 1) hx hb dX6_readEither_84 (by decide) ?_
                  exact hx_retz hx hb hr rfl hlk hW ⟨(by decide), hT, hM⟩ dX6_readEither_85
              · skip
                refine lv_aload_n hx hb dX6_readEither_64 rfl (lv_at hl 3 rfl) ?_
                refine hk_getr hx hb hts hC_6 hown hW (gx.S hM) tt_6 6 (by decide) rfl kw_131 ⟨rfl, rfl, rfl⟩ ((hM.o gx trivial rfl).2.trans f_x_6) dX6_readEither_65 ?_
                refine lv_bipush (v := -2) hx hb dX6_readEither_68 (by decide) ?_
                have zc_m2 : (-2 : Int32).toInt = -2 := by decide
                refine hx_gov (hx_runV (As := [.int (-2 : Int32)]) (rest := []) ⟨hx, hb, hml, hown, hts⟩ hW (gqi.S hM) tt_0 (T := TX0) (N := 5) rfl (t_X0_addProof l dC dI dA L_60 h_61 H.size qi (-2 : Int32) hT (gqi.S hM)) (cwV 1 hts (hx_gV kw_583 kw_580 kw_581 kw_582 kw_96) rfl rfl rfl (by decide +kernel) ⟨Nat.le_of_ble_eq_true rfl, Nat.le_of_ble_eq_true rfl⟩) rfl hl.1 rfl (Nat.le_of_ble_eq_true rfl) dX6_readEither_70 ⟨Nat.le_of_ble_eq_true rfl, Nat.le_of_ble_eq_true rfl⟩) hW (fun L_81 h_82 H locs p_84 hW => ?_)
                obtain ⟨hT, hs⟩ := p_84
                replace hT : hx_T T_tb L_81 h_82 := hT
                replace hs : hx_S T_tb [(0, 4), (12, 0)] L_60 h_61 L_81 h_82 := hs
                replace fx_1 := (hs.o (gx.S hM) trivial rfl).1.trans fx_1
                replace fw_65 := (hs.o (gx.S hM) trivial rfl).1.trans fw_65
                replace hM := hM.tr (hs.mono (by decide))
                refine lv_aload_n hx hb dX6_readEither_73 rfl (lv_at hl 3 rfl) ?_
                refine va_ldcS (tx := P_st.getD 3 "") hx hb hown (zVR 3 (by decide)) dX6_readEither_74 ?_
                refine hx_goi (hx_runVX (As := [.ref (b0.2.2.2.1 3)]) (rest := []) ⟨hx, hb, hml, hown, hts⟩ hW (gx.S hM) tt_6 (T := TX6) (N := 7) rfl (t_X6_isNextWord l dC dI dA L_81 h_82 H.size b0 x 3 hT (gx.S hM) (by decide) qt (gqt.S hM) ((hM.o gx trivial rfl).2.trans f_x_0)) hZ (cwV 1 hts (hx_gV kw_565 kw_562 kw_564 kw_14 kw_95) rfl rfl rfl (by decide +kernel) ⟨Nat.le_of_ble_eq_true rfl, Nat.le_of_ble_eq_true rfl⟩) rfl hl.1 rfl (Nat.le_of_ble_eq_true rfl) dX6_readEither_76 ⟨Nat.le_of_ble_eq_true rfl, Nat.le_of_ble_eq_true rfl⟩) hW (fun r_88 L_86 h_87 H locs p_89 hW => ?_)
                obtain ⟨⟨w_91, fw_91, hr_90⟩, hT, hs⟩ := p_89
                replace hT : hx_T T_tb L_86 h_87 := hT
                replace hs : hx_S T_tb [(6, 2)] L_81 h_82 L_86 h_87 := hs
                replace fx_1 := (hs.o (gx.S hM) trivial rfl).1.trans fx_1
                replace hM := hM.tr (hs.mono (by decide))
                have fw_91 : h_87.2.1 x 2 = w_91 := fw_91
                have bw_91 := hT.gi (gx.S hM) tt_6 (k := 2) rfl
                rw [fw_91] at bw_91
                have bw_91 : 0 ≤ w_91.toInt ∧ w_91.toInt ≤ 402 := bw_91
                refine lv_istore_n (lv' := [(3, .int r_88), (2, .int r_62), (4, .int iv7_4), (0, .ref x), (1, .int (2 : Int32))]) hx hb dX6_readEither_79 rfl hl (by decide) rfl (fun ls hl => ?_)
                refine lv_iload_n hx hb dX6_readEither_80 rfl (lv_at hl 0 rfl) ?_
                refine hb_if_ne (zx := r_88.toInt) (tgt := 86) hx hb rfl dX6_readEither_81 (by decide) (fun c_92 => ?_) (fun c_92 => ?_)
                · skip
                  refine lv_aload_n hx hb dX6_readEither_86 rfl (lv_at hl 3 rfl) ?_
                  refine lv_dup hx hb dX6_readEither_87 rfl ?_
                  refine hk_geti hx hb hts hC_6 hown hW (gx.S hM) tt_6 2 (by decide) rfl kw_127 ⟨rfl, rfl, rfl⟩ fw_91 dX6_readEither_88 ?_
                  refine lv_iconst (v := 2) hx hb dX6_readEither_91 (by decide) ?_
                  refine lv_iadd hx hb dX6_readEither_92 ?_
                  have rg_93 := i32_r w_91
                  refine lv_topi (fun x_94 ex_94 => ?_)
                  have zx_94 : x_94.toInt = w_91.toInt + 2 := by rw [ex_94]; exact i32_add rfl (by decide) (by omega) (by omega)
                  refine hx_puti hx hb hts hC_6 hown hW hT (hx_S.rf (M := [(6, 2)])) (gx.S hM) tt_6 2 (by decide) rfl kw_127 ⟨rfl, rfl, rfl⟩ rfl (x := x_94) ⟨by omega, by omega⟩ rfl rfl rfl (List.mem_singleton.mpr rfl) dX6_readEither_93 (fun H locs h_95 eh_95 hW hT hs => ?_)
                  replace fx_1 := (hs.o (gx.S hM) trivial rfl).1.trans fx_1
                  replace hM := hM.tr (hs.mono (by decide))
                  have f_96 : h_95.2.1 x 2 = x_94 := by rw [eh_95]; exact hx_pi_at _ _ _ _
                  obtain ⟨x_97, ex_97⟩ : ∃ y : Int32, y = iv7_4 + Int32.ofInt 1 := ⟨_, rfl⟩
                  have rg_98 := i32_r iv7_4
                  have zx_97 : x_97.toInt = iv7_4.toInt + (1) := by rw [ex_97]; exact i32_add rfl (by decide) (by omega) (by omega)
                  refine lv_iinc (v := x_97) (lv' := [(4, .int x_97), (3, .int r_88), (2, .int r_62), (0, .ref x), (1, .int (2 : Int32))]) hx hb dX6_readEither_96 hl (k := 2) rfl ex_97.symm (by decide) rfl (fun ls hl => ?_)
                  refine lv_goto (tgt := 7) hx hb dX6_readEither_99 (by decide) ?_
                  exact ih7 r_62 r_88 x_97 _ _ L_86 h_95 (by omega) (by omega) (by omega) (by omega) (by omega) (by omega)  ls (by omega) hW hT hM   (lv_sub hl [0, 1, 2, 3, 4] rfl)
                · skip
                  refine lv_iconst (v := 1) hx hb dX6_readEither_84 (by decide) ?_
                  exact hx_retz hx hb hr rfl hlk hW ⟨(by decide), hT, hM⟩ dX6_readEither_85
            · skip
              refine lv_aload_n hx hb dX6_readEither_47 rfl (lv_at hl 3 rfl) ?_
              refine lv_dup hx hb dX6_readEither_48 rfl ?_
              refine hk_geti hx hb hts hC_6 hown hW (gx.S hM) tt_6 2 (by decide) rfl kw_127 ⟨rfl, rfl, rfl⟩ fw_65 dX6_readEither_49 ?_
              refine lv_iconst (v := 3) hx hb dX6_readEither_52 (by decide) ?_
              refine lv_iadd hx hb dX6_readEither_53 ?_
              have rg_99 := i32_r w_65
              refine lv_topi (fun x_100 ex_100 => ?_)
              have zx_100 : x_100.toInt = w_65.toInt + 3 := by rw [ex_100]; exact i32_add rfl (by decide) (by omega) (by omega)
              refine hx_puti hx hb hts hC_6 hown hW hT (hx_S.rf (M := [(6, 2)])) (gx.S hM) tt_6 2 (by decide) rfl kw_127 ⟨rfl, rfl, rfl⟩ rfl (x := x_100) ⟨by omega, by omega⟩ rfl rfl rfl (List.mem_singleton.mpr rfl) dX6_readEither_54 (fun H locs h_101 eh_101 hW hT hs => ?_)
              replace fx_1 := (hs.o (gx.S hM) trivial rfl).1.trans fx_1
              replace hM := hM.tr (hs.mono (by decide))
              have f_102 : h_101.2.1 x 2 = x_100 := by rw [eh_101]; exact hx_pi_at _ _ _ _
              refine lv_goto (tgt := 96) hx hb dX6_readEither_57 (by decide) ?_
              obtain ⟨x_103, ex_103⟩ : ∃ y : Int32, y = iv7_4 + Int32.ofInt 1 := ⟨_, rfl⟩
              have rg_104 := i32_r iv7_4
              have zx_103 : x_103.toInt = iv7_4.toInt + (1) := by rw [ex_103]; exact i32_add rfl (by decide) (by omega) (by omega)
              refine lv_iinc (v := x_103) (lv' := [(4, .int x_103), (2, .int r_62), (3, .int iv7_3), (0, .ref x), (1, .int (2 : Int32))]) hx hb dX6_readEither_96 hl (k := 1) rfl ex_103.symm (by decide) rfl (fun ls hl => ?_)
              refine lv_goto (tgt := 7) hx hb dX6_readEither_99 (by decide) ?_
              exact ih7 r_62 iv7_3 x_103 _ _ L_60 h_101 (by omega) (by omega) (by omega) (by omega) (by omega) (by omega)  ls (by omega) hW hT hM   (lv_sub hl [0, 2, 1, 3, 4] rfl)
  have zk_0 : (0 : Int32).toInt = 0 := by decide
  have zk_0 : (0 : Int32).toInt = 0 := by decide
  have zk_0 : (0 : Int32).toInt = 0 := by decide
  exact loop7 402 (0 : Int32) (0 : Int32) (0 : Int32) _ _ L h (by decide) (by decide) (by decide) (by decide) (by decide) (by decide)  ls (by omega) hW hT hM   hl


set_option maxHeartbeats 4000000 in
set_option maxRecDepth 100000 in
theorem t_X6_readOne_1 (l : Launch) (dC : Nat → ClassId) (dI : Nat → Nat → Nat) (dA : Nat → ClassId) (L : List Nat) (h : hx_h) (sz : Nat) (b0 : hx_z) (x : Nat) (hT : hx_T T_tb L h) (gx : hx_g L h x 6) (qt : Nat) (gqt : hx_g L h qt 42) (f_x_0 : h.2.2 x 0 = some qt) (qi : Nat) (gqi : hx_g L h qi 0) (f_x_6 : h.2.2 x 6 = some qi) : Met l yX6_readOne (Cond.code yX6_readOne cX6_readOne 3 (some .boolean) :: hx_all) ({ frames := 21, cells := 0, slots := 0, locals := 480 }) (va_Pc [.ref x, .int (1 : Int32)] (hx_BX T_tb (P_ty dA) (dC, dI) vwCl L h sz b0)) (va_Qi (fun (r : Int32) (u : List Nat × hx_h) => (r.toInt = 0 ∨ r.toInt = 1) ∧ hx_T T_tb u.1 u.2 ∧ hx_S T_tb [(0, 4), (6, 2), (6, 3), (6, 5), (12, 0)] L h u.1 u.2) (hx_E T_tb (P_ty dA) (dC, dI) vwCl (hx_A L sz)) (hx_A L sz)) 0 0 (hx_A L sz) := by
  refine hx_metX (lv := [(0, .ref x), (1, .int (1 : Int32))]) (by decide +kernel) rfl (Nat.le_of_ble_eq_true rfl) rfl ?_
  intro p e s m below meth c hx hb hml hr hlk hts0 hown hin hsz hW hZ ls hl
  have hts : ∀ w ∈ hx_all, w.before _ s = true := fun w hw => hts0 w (List.mem_cons_of_mem _ hw)
  have hown : s.vm.findClass "SmallCourt$Reader" = some m.cls := hown
  have hM : hx_S T_tb [(0, 4), (6, 2), (6, 3), (6, 5), (12, 0)] L h L h := hx_S.rf
  obtain ⟨zLT, zLA, zMT, zMA, zCS, zSF, zVS, zVR⟩ := hZ.2.2.2.2.2.2
  refine lv_aload_n hx hb dX6_readOne_0 rfl (lv_at hl 0 rfl) ?_
  refine va_ldcS (tx := P_st.getD 4 "") hx hb hown (zVR 4 (by decide)) dX6_readOne_1 ?_
  refine hx_goi (hx_runVX (As := [.ref (b0.2.2.2.1 4)]) (rest := []) ⟨hx, hb, hml, hown, hts⟩ hW (gx.S hM) tt_6 (T := TX6) (N := 7) rfl (t_X6_isNextWord l dC dI dA L h s.heap.size b0 x 4 hT (gx.S hM) (by decide) qt (gqt.S hM) ((hM.o gx trivial rfl).2.trans f_x_0)) hZ (cwV 1 hts (hx_gV kw_565 kw_562 kw_564 kw_14 kw_95) rfl rfl rfl (by decide +kernel) ⟨Nat.le_of_ble_eq_true rfl, Nat.le_of_ble_eq_true rfl⟩) rfl hl.1 rfl (Nat.le_of_ble_eq_true rfl) dX6_readOne_3 ⟨Nat.le_of_ble_eq_true rfl, Nat.le_of_ble_eq_true rfl⟩) hW (fun r_3 L_1 h_2 H locs p_4 hW => ?_)
  obtain ⟨⟨w_6, fw_6, hr_5⟩, hT, hs⟩ := p_4
  replace hT : hx_T T_tb L_1 h_2 := hT
  replace hs : hx_S T_tb [(6, 2)] L h L_1 h_2 := hs
  replace hM := hM.tr (hs.mono (by decide))
  have fw_6 : h_2.2.1 x 2 = w_6 := fw_6
  have bw_6 := hT.gi (gx.S hM) tt_6 (k := 2) rfl
  rw [fw_6] at bw_6
  have bw_6 : 0 ≤ w_6.toInt ∧ w_6.toInt ≤ 402 := bw_6
  refine lv_istore_n (lv' := [(2, .int r_3), (0, .ref x), (1, .int (1 : Int32))]) hx hb dX6_readOne_6 rfl hl (by decide) rfl (fun ls hl => ?_)
  refine lv_iload_n hx hb dX6_readOne_7 rfl (lv_at hl 0 rfl) ?_
  refine hb_if_ne (zx := r_3.toInt) (tgt := 25) hx hb rfl dX6_readOne_8 (by decide) (fun c_7 => ?_) (fun c_7 => ?_)
  · skip
    refine lv_iload_n hx hb dX6_readOne_25 rfl (lv_at hl 2 rfl) ?_
    refine lv_bipush (v := 8) hx hb dX6_readOne_26 (by decide) ?_
    refine hb_icmp_lt (zx := 1) (zy := 8) (tgt := 41) hx hb (by decide) (by decide) dX6_readOne_28 (by decide) (fun c_8 => ?_) (fun c_8 => absurd c_8 (by decide))
    refine lv_iload_n hx hb dX6_readOne_41 rfl (lv_at hl 0 rfl) ?_
    refine hb_if_eq (zx := r_3.toInt) (tgt := 78) hx hb rfl dX6_readOne_42 (by decide) (fun c_9 => by exfalso; omega) (fun c_9 => ?_)
    refine lv_aload_n hx hb dX6_readOne_45 rfl (lv_at hl 1 rfl) ?_
    refine lv_dup hx hb dX6_readOne_46 rfl ?_
    refine hk_geti hx hb hts hC_6 hown hW (gx.S hM) tt_6 2 (by decide) rfl kw_127 ⟨rfl, rfl, rfl⟩ fw_6 dX6_readOne_47 ?_
    refine lv_iconst (v := 3) hx hb dX6_readOne_50 (by decide) ?_
    refine lv_iadd hx hb dX6_readOne_51 ?_
    have rg_10 := i32_r w_6
    refine lv_topi (fun x_11 ex_11 => ?_)
    have zx_11 : x_11.toInt = w_6.toInt + 3 := by rw [ex_11]; exact i32_add rfl (by decide) (by omega) (by omega)
    refine hx_puti hx hb hts hC_6 hown hW hT (hx_S.rf (M := [(6, 2)])) (gx.S hM) tt_6 2 (by decide) rfl kw_127 ⟨rfl, rfl, rfl⟩ rfl (x := x_11) ⟨by omega, by omega⟩ rfl rfl rfl (List.mem_singleton.mpr rfl) dX6_readOne_52 (fun H locs h_12 eh_12 hW hT hs => ?_)
    replace hM := hM.tr (hs.mono (by decide))
    have f_13 : h_12.2.1 x 2 = x_11 := by rw [eh_12]; exact hx_pi_at _ _ _ _
    refine lv_aload_n hx hb dX6_readOne_55 rfl (lv_at hl 1 rfl) ?_
    refine lv_iload_n hx hb dX6_readOne_56 rfl (lv_at hl 2 rfl) ?_
    refine lv_iconst (v := 1) hx hb dX6_readOne_57 (by decide) ?_
    refine lv_iadd hx hb dX6_readOne_58 ?_
    refine lv_topi (fun x_14 ex_14 => ?_)
    obtain rfl : x_14 = (2 : Int32) := ex_14.trans (by decide)
    have zc_2 : (2 : Int32).toInt = 2 := by decide
    refine hx_goi (hx_runVX (As := [.int (2 : Int32)]) (rest := []) ⟨hx, hb, hml, hown, hts⟩ hW (gx.S hM) tt_6 (T := TX6) (N := 7) rfl (t_X6_readOne_2 l dC dI dA L_1 h_12 H.size b0 x hT (gx.S hM) qt (gqt.S hM) ((hM.o gx trivial rfl).2.trans f_x_0) qi (gqi.S hM) ((hM.o gx trivial rfl).2.trans f_x_6)) hZ (cwV 1 hts (hx_gV kw_560 kw_557 kw_559 kw_13 kw_95) rfl rfl rfl (by decide +kernel) ⟨Nat.le_of_ble_eq_true rfl, Nat.le_of_ble_eq_true rfl⟩) rfl hl.1 rfl (Nat.le_of_ble_eq_true rfl) dX6_readOne_59 ⟨Nat.le_of_ble_eq_true rfl, Nat.le_of_ble_eq_true rfl⟩) hW (fun r_17 L_15 h_16 H locs p_18 hW => ?_)
    obtain ⟨hr_19, hT, hs⟩ := p_18
    replace hT : hx_T T_tb L_15 h_16 := hT
    replace hs : hx_S T_tb [(0, 4), (6, 2), (6, 3), (6, 5), (12, 0)] L_1 h_12 L_15 h_16 := hs
    replace hM := hM.tr (hs.mono (by decide))
    refine hb_if_ne (zx := r_17.toInt) (tgt := 67) hx hb rfl dX6_readOne_62 (by decide) (fun c_20 => ?_) (fun c_20 => ?_)
    · skip
      refine lv_aload_n hx hb dX6_readOne_67 rfl (lv_at hl 1 rfl) ?_
      refine hk_getr hx hb hts hC_6 hown hW (gx.S hM) tt_6 6 (by decide) rfl kw_131 ⟨rfl, rfl, rfl⟩ ((hM.o gx trivial rfl).2.trans f_x_6) dX6_readOne_68 ?_
      refine lv_bipush (v := -3) hx hb dX6_readOne_71 (by decide) ?_
      have zc_m3 : (-3 : Int32).toInt = -3 := by decide
      refine hx_gov (hx_runV (As := [.int (-3 : Int32)]) (rest := []) ⟨hx, hb, hml, hown, hts⟩ hW (gqi.S hM) tt_0 (T := TX0) (N := 5) rfl (t_X0_addProof l dC dI dA L_15 h_16 H.size qi (-3 : Int32) hT (gqi.S hM)) (cwV 1 hts (hx_gV kw_583 kw_580 kw_581 kw_582 kw_96) rfl rfl rfl (by decide +kernel) ⟨Nat.le_of_ble_eq_true rfl, Nat.le_of_ble_eq_true rfl⟩) rfl hl.1 rfl (Nat.le_of_ble_eq_true rfl) dX6_readOne_73 ⟨Nat.le_of_ble_eq_true rfl, Nat.le_of_ble_eq_true rfl⟩) hW (fun L_21 h_22 H locs p_24 hW => ?_)
      obtain ⟨hT, hs⟩ := p_24
      replace hT : hx_T T_tb L_21 h_22 := hT
      replace hs : hx_S T_tb [(0, 4), (12, 0)] L_15 h_16 L_21 h_22 := hs
      replace hM := hM.tr (hs.mono (by decide))
      refine lv_iconst (v := 1) hx hb dX6_readOne_76 (by decide) ?_
      exact hx_retz hx hb hr rfl hlk hW ⟨(by decide), hT, hM⟩ dX6_readOne_77
    · skip
      refine lv_iconst (v := 0) hx hb dX6_readOne_65 (by decide) ?_
      exact hx_retz hx hb hr rfl hlk hW ⟨(by decide), hT, hM⟩ dX6_readOne_66
  · skip
    refine lv_aload_n hx hb dX6_readOne_11 rfl (lv_at hl 1 rfl) ?_
    refine lv_bipush (v := 40) hx hb dX6_readOne_12 (by decide) ?_
    have zc_40 : (40 : Int32).toInt = 40 := by decide
    refine hx_goi (hx_runV (As := [.int (40 : Int32)]) (rest := []) ⟨hx, hb, hml, hown, hts⟩ hW (gx.S hM) tt_6 (T := TX6) (N := 7) rfl (t_X6_isByte l dC dI dA L_1 h_2 H.size x (40 : Int32) hT (gx.S hM) w_6 fw_6 qt (gqt.S hM) ((hM.o gx trivial rfl).2.trans f_x_0)) (cwV 1 hts (hx_gV kw_569 kw_566 kw_568 kw_15 kw_95) rfl rfl rfl (by decide +kernel) ⟨Nat.le_of_ble_eq_true rfl, Nat.le_of_ble_eq_true rfl⟩) rfl hl.1 rfl (Nat.le_of_ble_eq_true rfl) dX6_readOne_14 ⟨Nat.le_of_ble_eq_true rfl, Nat.le_of_ble_eq_true rfl⟩) hW (fun r_28 L_26 h_27 H locs p_29 hW => ?_)
    obtain ⟨hr_30, hT, hs⟩ := p_29
    replace hT : hx_T T_tb L_26 h_27 := hT
    replace hs : hx_S T_tb [] L_1 h_2 L_26 h_27 := hs
    replace fw_6 := (hs.o (gx.S hM) trivial rfl).1.trans fw_6
    replace hM := hM.tr (hs.mono (by decide))
    refine hb_if_ne (zx := r_28.toInt) (tgt := 25) hx hb rfl dX6_readOne_17 (by decide) (fun c_31 => ?_) (fun c_31 => ?_)
    · skip
      refine lv_iload_n hx hb dX6_readOne_25 rfl (lv_at hl 2 rfl) ?_
      refine lv_bipush (v := 8) hx hb dX6_readOne_26 (by decide) ?_
      refine hb_icmp_lt (zx := 1) (zy := 8) (tgt := 41) hx hb (by decide) (by decide) dX6_readOne_28 (by decide) (fun c_32 => ?_) (fun c_32 => absurd c_32 (by decide))
      refine lv_iload_n hx hb dX6_readOne_41 rfl (lv_at hl 0 rfl) ?_
      refine hb_if_eq (zx := r_3.toInt) (tgt := 78) hx hb rfl dX6_readOne_42 (by decide) (fun c_33 => ?_) (fun c_33 => by exfalso; omega)
      refine lv_aload_n hx hb dX6_readOne_78 rfl (lv_at hl 1 rfl) ?_
      refine lv_dup hx hb dX6_readOne_79 rfl ?_
      refine hk_geti hx hb hts hC_6 hown hW (gx.S hM) tt_6 2 (by decide) rfl kw_127 ⟨rfl, rfl, rfl⟩ fw_6 dX6_readOne_80 ?_
      refine lv_iconst (v := 1) hx hb dX6_readOne_83 (by decide) ?_
      refine lv_iadd hx hb dX6_readOne_84 ?_
      have rg_34 := i32_r w_6
      refine lv_topi (fun x_35 ex_35 => ?_)
      have zx_35 : x_35.toInt = w_6.toInt + 1 := by rw [ex_35]; exact i32_add rfl (by decide) (by omega) (by omega)
      refine hx_puti hx hb hts hC_6 hown hW hT (hx_S.rf (M := [(6, 2)])) (gx.S hM) tt_6 2 (by decide) rfl kw_127 ⟨rfl, rfl, rfl⟩ rfl (x := x_35) ⟨by omega, by omega⟩ rfl rfl rfl (List.mem_singleton.mpr rfl) dX6_readOne_85 (fun H locs h_36 eh_36 hW hT hs => ?_)
      replace hM := hM.tr (hs.mono (by decide))
      have f_37 : h_36.2.1 x 2 = x_35 := by rw [eh_36]; exact hx_pi_at _ _ _ _
      refine lv_aload_n hx hb dX6_readOne_88 rfl (lv_at hl 1 rfl) ?_
      refine lv_iload_n hx hb dX6_readOne_89 rfl (lv_at hl 2 rfl) ?_
      refine lv_iconst (v := 1) hx hb dX6_readOne_90 (by decide) ?_
      refine lv_iadd hx hb dX6_readOne_91 ?_
      refine lv_topi (fun x_38 ex_38 => ?_)
      obtain rfl : x_38 = (2 : Int32) := ex_38.trans (by decide)
      have zc_2 : (2 : Int32).toInt = 2 := by decide
      refine hx_goi (hx_runVX (As := [.int (2 : Int32)]) (rest := []) ⟨hx, hb, hml, hown, hts⟩ hW (gx.S hM) tt_6 (T := TX6) (N := 7) rfl (t_X6_readEither_2 l dC dI dA L_26 h_36 H.size b0 x hT (gx.S hM) qt (gqt.S hM) ((hM.o gx trivial rfl).2.trans f_x_0) qi (gqi.S hM) ((hM.o gx trivial rfl).2.trans f_x_6)) hZ (cwV 1 hts (hx_gV kw_556 kw_553 kw_555 kw_12 kw_95) rfl rfl rfl (by decide +kernel) ⟨Nat.le_of_ble_eq_true rfl, Nat.le_of_ble_eq_true rfl⟩) rfl hl.1 rfl (Nat.le_of_ble_eq_true rfl) dX6_readOne_92 ⟨Nat.le_of_ble_eq_true rfl, Nat.le_of_ble_eq_true rfl⟩) hW (fun r_41 L_39 h_40 H locs p_42 hW => ?_)
      obtain ⟨hr_43, hT, hs⟩ := p_42
      replace hT : hx_T T_tb L_39 h_40 := hT
      replace hs : hx_S T_tb [(0, 4), (6, 2), (6, 3), (6, 5), (12, 0)] L_26 h_36 L_39 h_40 := hs
      replace hM := hM.tr (hs.mono (by decide))
      refine hb_if_ne (zx := r_41.toInt) (tgt := 100) hx hb rfl dX6_readOne_95 (by decide) (fun c_44 => ?_) (fun c_44 => ?_)
      · skip
        refine lv_aload_n hx hb dX6_readOne_100 rfl (lv_at hl 1 rfl) ?_
        refine hx_gov (hx_runV (As := []) (rest := []) ⟨hx, hb, hml, hown, hts⟩ hW (gx.S hM) tt_6 (T := TX6) (N := 7) rfl (t_X6_skipBlanks l dC dI dA L_39 h_40 H.size x hT (gx.S hM) qt (gqt.S hM) ((hM.o gx trivial rfl).2.trans f_x_0)) (cwV 0 hts (hx_gV kw_458 kw_455 kw_457 kw_1 kw_95) rfl rfl rfl (by decide +kernel) ⟨Nat.le_of_ble_eq_true rfl, Nat.le_of_ble_eq_true rfl⟩) rfl hl.1 rfl (Nat.le_of_ble_eq_true rfl) dX6_readOne_101 ⟨Nat.le_of_ble_eq_true rfl, Nat.le_of_ble_eq_true rfl⟩) hW (fun L_45 h_46 H locs p_48 hW => ?_)
        obtain ⟨hT, hs⟩ := p_48
        replace hT : hx_T T_tb L_45 h_46 := hT
        replace hs : hx_S T_tb [(6, 2)] L_39 h_40 L_45 h_46 := hs
        replace hM := hM.tr (hs.mono (by decide))
        refine lv_aload_n hx hb dX6_readOne_104 rfl (lv_at hl 1 rfl) ?_
        refine lv_bipush (v := 41) hx hb dX6_readOne_105 (by decide) ?_
        have zc_41 : (41 : Int32).toInt = 41 := by decide
        obtain ⟨fv_50, efv_50⟩ : ∃ y : Int32, y = h_46.2.1 x 2 := ⟨_, rfl⟩
        have bfv_50 := hT.gi (gx.S hM) tt_6 (k := 2) rfl
        rw [← efv_50] at bfv_50
        have bfv_50 : 0 ≤ fv_50.toInt ∧ fv_50.toInt ≤ 402 := bfv_50
        have ffv_50 := efv_50.symm
        refine hx_goi (hx_runV (As := [.int (41 : Int32)]) (rest := []) ⟨hx, hb, hml, hown, hts⟩ hW (gx.S hM) tt_6 (T := TX6) (N := 7) rfl (t_X6_isByte l dC dI dA L_45 h_46 H.size x (41 : Int32) hT (gx.S hM) fv_50 ffv_50 qt (gqt.S hM) ((hM.o gx trivial rfl).2.trans f_x_0)) (cwV 1 hts (hx_gV kw_569 kw_566 kw_568 kw_15 kw_95) rfl rfl rfl (by decide +kernel) ⟨Nat.le_of_ble_eq_true rfl, Nat.le_of_ble_eq_true rfl⟩) rfl hl.1 rfl (Nat.le_of_ble_eq_true rfl) dX6_readOne_107 ⟨Nat.le_of_ble_eq_true rfl, Nat.le_of_ble_eq_true rfl⟩) hW (fun r_53 L_51 h_52 H locs p_54 hW => ?_)
        obtain ⟨hr_55, hT, hs⟩ := p_54
        replace hT : hx_T T_tb L_51 h_52 := hT
        replace hs : hx_S T_tb [] L_45 h_46 L_51 h_52 := hs
        replace ffv_50 := (hs.o (gx.S hM) trivial rfl).1.trans ffv_50
        replace hM := hM.tr (hs.mono (by decide))
        refine hb_if_ne (zx := r_53.toInt) (tgt := 123) hx hb rfl dX6_readOne_110 (by decide) (fun c_56 => ?_) (fun c_56 => ?_)
        · skip
          refine lv_aload_n hx hb dX6_readOne_123 rfl (lv_at hl 1 rfl) ?_
          refine lv_dup hx hb dX6_readOne_124 rfl ?_
          refine hk_geti hx hb hts hC_6 hown hW (gx.S hM) tt_6 2 (by decide) rfl kw_127 ⟨rfl, rfl, rfl⟩ ffv_50 dX6_readOne_125 ?_
          refine lv_iconst (v := 1) hx hb dX6_readOne_128 (by decide) ?_
          refine lv_iadd hx hb dX6_readOne_129 ?_
          have rg_57 := i32_r fv_50
          refine lv_topi (fun x_58 ex_58 => ?_)
          have zx_58 : x_58.toInt = fv_50.toInt + 1 := by rw [ex_58]; exact i32_add rfl (by decide) (by omega) (by omega)
          refine hx_puti hx hb hts hC_6 hown hW hT (hx_S.rf (M := [(6, 2)])) (gx.S hM) tt_6 2 (by decide) rfl kw_127 ⟨rfl, rfl, rfl⟩ rfl (x := x_58) ⟨by omega, by omega⟩ rfl rfl rfl (List.mem_singleton.mpr rfl) dX6_readOne_130 (fun H locs h_59 eh_59 hW hT hs => ?_)
          replace hM := hM.tr (hs.mono (by decide))
          have f_60 : h_59.2.1 x 2 = x_58 := by rw [eh_59]; exact hx_pi_at _ _ _ _
          refine lv_iconst (v := 1) hx hb dX6_readOne_133 (by decide) ?_
          exact hx_retz hx hb hr rfl hlk hW ⟨(by decide), hT, hM⟩ dX6_readOne_134
        · skip
          refine lv_aload_n hx hb dX6_readOne_113 rfl (lv_at hl 1 rfl) ?_
          refine lv_aload_n hx hb dX6_readOne_114 rfl (lv_at hl 1 rfl) ?_
          refine hk_geti hx hb hts hC_6 hown hW (gx.S hM) tt_6 2 (by decide) rfl kw_127 ⟨rfl, rfl, rfl⟩ ffv_50 dX6_readOne_115 ?_
          refine lv_iconst (v := 0) hx hb dX6_readOne_118 (by decide) ?_
          have zc_0 : (0 : Int32).toInt = 0 := by decide
          refine hx_goi (hx_runV (As := [.int fv_50, .int (0 : Int32)]) (rest := []) ⟨hx, hb, hml, hown, hts⟩ hW (gx.S hM) tt_6 (T := TX6) (N := 7) rfl (t_X6_refuse l dC dI dA L_51 h_52 H.size x fv_50 (0 : Int32) hT (gx.S hM)) (cwV 2 hts (hx_gV kw_527 kw_524 kw_526 kw_6 kw_95) rfl rfl rfl (by decide +kernel) ⟨Nat.le_of_ble_eq_true rfl, Nat.le_of_ble_eq_true rfl⟩) rfl hl.1 rfl (Nat.le_of_ble_eq_true rfl) dX6_readOne_119 ⟨Nat.le_of_ble_eq_true rfl, Nat.le_of_ble_eq_true rfl⟩) hW (fun r_63 L_61 h_62 H locs p_64 hW => ?_)
          obtain ⟨hr_65, hT, hs⟩ := p_64
          replace hT : hx_T T_tb L_61 h_62 := hT
          replace hs : hx_S T_tb [(6, 3)] L_51 h_52 L_61 h_62 := hs
          replace ffv_50 := (hs.o (gx.S hM) trivial rfl).1.trans ffv_50
          replace hM := hM.tr (hs.mono (by decide))
          exact hx_retz hx hb hr (hx_nar01 (by omega)) hlk hW ⟨(by omega), hT, hM⟩ dX6_readOne_122
      · skip
        refine lv_iconst (v := 0) hx hb dX6_readOne_98 (by decide) ?_
        exact hx_retz hx hb hr rfl hlk hW ⟨(by decide), hT, hM⟩ dX6_readOne_99
    · skip
      refine lv_aload_n hx hb dX6_readOne_20 rfl (lv_at hl 1 rfl) ?_
      refine hx_goi (hx_runVX (As := []) (rest := []) ⟨hx, hb, hml, hown, hts⟩ hW (gx.S hM) tt_6 (T := TX6) (N := 7) rfl (t_X6_readTerm l dC dI dA L_26 h_27 H.size b0 x hT (gx.S hM) qt (gqt.S hM) ((hM.o gx trivial rfl).2.trans f_x_0) qi (gqi.S hM) ((hM.o gx trivial rfl).2.trans f_x_6)) hZ (cwV 0 hts (hx_gV kw_573 kw_570 kw_572 kw_16 kw_95) rfl rfl rfl (by decide +kernel) ⟨Nat.le_of_ble_eq_true rfl, Nat.le_of_ble_eq_true rfl⟩) rfl hl.1 rfl (Nat.le_of_ble_eq_true rfl) dX6_readOne_21 ⟨Nat.le_of_ble_eq_true rfl, Nat.le_of_ble_eq_true rfl⟩) hW (fun r_68 L_66 h_67 H locs p_69 hW => ?_)
      obtain ⟨hr_70, hT, hs⟩ := p_69
      replace hT : hx_T T_tb L_66 h_67 := hT
      replace hs : hx_S T_tb [(0, 4), (6, 2), (6, 3), (6, 5), (12, 0)] L_26 h_27 L_66 h_67 := hs
      replace hM := hM.tr (hs.mono (by decide))
      exact hx_retz hx hb hr (hx_nar01 (by omega)) hlk hW ⟨(by omega), hT, hM⟩ dX6_readOne_24


set_option maxHeartbeats 4000000 in
set_option maxRecDepth 100000 in
theorem t_X6_readEither_1 (l : Launch) (dC : Nat → ClassId) (dI : Nat → Nat → Nat) (dA : Nat → ClassId) (L : List Nat) (h : hx_h) (sz : Nat) (b0 : hx_z) (x : Nat) (hT : hx_T T_tb L h) (gx : hx_g L h x 6) (qt : Nat) (gqt : hx_g L h qt 42) (f_x_0 : h.2.2 x 0 = some qt) (qi : Nat) (gqi : hx_g L h qi 0) (f_x_6 : h.2.2 x 6 = some qi) : Met l yX6_readEither (Cond.code yX6_readEither cX6_readEither 5 (some .boolean) :: hx_all) ({ frames := 22, cells := 0, slots := 0, locals := 502 }) (va_Pc [.ref x, .int (1 : Int32)] (hx_BX T_tb (P_ty dA) (dC, dI) vwCl L h sz b0)) (va_Qi (fun (r : Int32) (u : List Nat × hx_h) => (r.toInt = 0 ∨ r.toInt = 1) ∧ hx_T T_tb u.1 u.2 ∧ hx_S T_tb [(0, 4), (6, 2), (6, 3), (6, 5), (12, 0)] L h u.1 u.2) (hx_E T_tb (P_ty dA) (dC, dI) vwCl (hx_A L sz)) (hx_A L sz)) 0 0 (hx_A L sz) := by
  refine hx_metX (lv := [(0, .ref x), (1, .int (1 : Int32))]) (by decide +kernel) rfl (Nat.le_of_ble_eq_true rfl) rfl ?_
  intro p e s m below meth c hx hb hml hr hlk hts0 hown hin hsz hW hZ ls hl
  have hts : ∀ w ∈ hx_all, w.before _ s = true := fun w hw => hts0 w (List.mem_cons_of_mem _ hw)
  have hown : s.vm.findClass "SmallCourt$Reader" = some m.cls := hown
  have hM : hx_S T_tb [(0, 4), (6, 2), (6, 3), (6, 5), (12, 0)] L h L h := hx_S.rf
  obtain ⟨zLT, zLA, zMT, zMA, zCS, zSF, zVS, zVR⟩ := hZ.2.2.2.2.2.2
  refine lv_iconst (v := 0) hx hb dX6_readEither_0 (by decide) ?_
  refine lv_istore_n (lv' := [(2, .int (0 : Int32)), (0, .ref x), (1, .int (1 : Int32))]) hx hb dX6_readEither_1 rfl hl (by decide) rfl (fun ls hl => ?_)
  refine lv_iconst (v := 0) hx hb dX6_readEither_2 (by decide) ?_
  refine lv_istore_n (lv' := [(3, .int (0 : Int32)), (2, .int (0 : Int32)), (0, .ref x), (1, .int (1 : Int32))]) hx hb dX6_readEither_3 rfl hl (by decide) rfl (fun ls hl => ?_)
  refine lv_iconst (v := 0) hx hb dX6_readEither_4 (by decide) ?_
  refine lv_istore (lv' := [(4, .int (0 : Int32)), (3, .int (0 : Int32)), (2, .int (0 : Int32)), (0, .ref x), (1, .int (1 : Int32))]) hx hb dX6_readEither_5 hl (by decide) rfl (fun ls hl => ?_)
  have loop7 : ∀ (n7 : Nat) (iv7_2 iv7_3 iv7_4 : Int32) (H : Heap) (locs : List Loc) (hL1 : List Nat) (hl1 : hx_h), 0 ≤ iv7_2.toInt → iv7_2.toInt ≤ 1 → 0 ≤ iv7_3.toInt → iv7_3.toInt ≤ 1 → 0 ≤ iv7_4.toInt → iv7_4.toInt ≤ 401 → ∀ (ls : Array Slot), 401 - iv7_4.toInt < (n7 : Int) → hx_W T_tb (P_ty dA) (dC, dI) vwCl (hx_A L sz) s.heap hL1 hl1 s H locs → hx_T T_tb hL1 hl1 → hx_S T_tb [(0, 4), (6, 2), (6, 3), (6, 5), (12, 0)] L h hL1 hl1 → lv_has ls 5 [(4, .int iv7_4), (3, .int iv7_3), (2, .int iv7_2), (0, .ref x), (1, .int (1 : Int32))] → W p l e ({ frames := 22, cells := 0, slots := 0, locals := 502 }) s m ([.ref x, .int (1 : Int32)] : List Value).toArray below meth c H locs 0 0 (MQ below (va_Qi (fun (r : Int32) (u : List Nat × hx_h) => (r.toInt = 0 ∨ r.toInt = 1) ∧ hx_T T_tb u.1 u.2 ∧ hx_S T_tb [(0, 4), (6, 2), (6, 3), (6, 5), (12, 0)] L h u.1 u.2) (hx_E T_tb (P_ty dA) (dC, dI) vwCl (hx_A L sz)) (hx_A L sz)) ([.ref x, .int (1 : Int32)] : List Value).toArray s 0 0 (hx_A L sz)) (F0 m 7 ls []) := by
    intro n7
    induction n7 with
    | zero => intro iv7_2 iv7_3 iv7_4 H locs hL1 hl1 bliv7_2 buiv7_2 bliv7_3 buiv7_3 bliv7_4 buiv7_4  ls hn7; exfalso; omega
    | succ n7 ih7 =>
      intro iv7_2 iv7_3 iv7_4 H locs hL1 hl1 bliv7_2 buiv7_2 bliv7_3 buiv7_3 bliv7_4 buiv7_4  ls hn7 hW hT hM   hl
      refine lv_iload hx hb dX6_readEither_7 (lv_at hl 0 rfl) ?_
      refine lv_aload_n hx hb dX6_readEither_9 rfl (lv_at hl 3 rfl) ?_
      refine hx_geti hx hb hts hC_6 hown hW hT (gx.S hM) tt_6 1 (by decide) rfl kw_126 ⟨rfl, rfl, rfl⟩ dX6_readEither_10 (fun x_1 ex_1 lx_1 ux_1 => ?_)
      have fx_1 := ex_1.symm
      refine hb_icmp_gt (zx := iv7_4.toInt) (zy := x_1.toInt) (tgt := 102) hx hb rfl rfl dX6_readEither_13 (by decide) (fun c_2 => ?_) (fun c_2 => ?_)
      · skip
        refine lv_iconst (v := 0) hx hb dX6_readEither_102 (by decide) ?_
        exact hx_retz hx hb hr rfl hlk hW ⟨(by decide), hT, hM⟩ dX6_readEither_103
      · skip
        refine lv_aload_n hx hb dX6_readEither_16 rfl (lv_at hl 3 rfl) ?_
        refine lv_iload_n hx hb dX6_readEither_17 rfl (lv_at hl 4 rfl) ?_
        have zc_1 : (1 : Int32).toInt = 1 := by decide
        refine hx_goi (hx_runVX (As := [.int (1 : Int32)]) (rest := []) ⟨hx, hb, hml, hown, hts⟩ hW (gx.S hM) tt_6 (T := TX6) (N := 7) rfl (t_X6_readOne_1 l dC dI dA hL1 hl1 H.size b0 x hT (gx.S hM) qt (gqt.S hM) ((hM.o gx trivial rfl).2.trans f_x_0) qi (gqi.S hM) ((hM.o gx trivial rfl).2.trans f_x_6)) hZ (cwV 1 hts (hx_gV kw_560 kw_557 kw_559 kw_13 kw_95) rfl rfl rfl (by decide +kernel) ⟨Nat.le_of_ble_eq_true rfl, Nat.le_of_ble_eq_true rfl⟩) rfl hl.1 rfl (Nat.le_of_ble_eq_true rfl) dX6_readEither_18 ⟨Nat.le_of_ble_eq_true rfl, Nat.le_of_ble_eq_true rfl⟩) hW (fun r_5 L_3 h_4 H locs p_6 hW => ?_)
        obtain ⟨hr_7, hT, hs⟩ := p_6
        replace hT : hx_T T_tb L_3 h_4 := hT
        replace hs : hx_S T_tb [(0, 4), (6, 2), (6, 3), (6, 5), (12, 0)] hL1 hl1 L_3 h_4 := hs
        replace fx_1 := (hs.o (gx.S hM) trivial rfl).1.trans fx_1
        replace hM := hM.tr (hs.mono (by decide))
        refine hb_if_eq (zx := r_5.toInt) (tgt := 102) hx hb rfl dX6_readEither_21 (by decide) (fun c_8 => ?_) (fun c_8 => ?_)
        · skip
          refine lv_iconst (v := 0) hx hb dX6_readEither_102 (by decide) ?_
          exact hx_retz hx hb hr rfl hlk hW ⟨(by decide), hT, hM⟩ dX6_readEither_103
        · skip
          refine lv_iload_n hx hb dX6_readEither_24 rfl (lv_at hl 2 rfl) ?_
          refine hb_if_eq (zx := iv7_2.toInt) (tgt := 36) hx hb rfl dX6_readEither_25 (by decide) (fun c_9 => ?_) (fun c_9 => ?_)
          · skip
            refine lv_aload_n hx hb dX6_readEither_36 rfl (lv_at hl 3 rfl) ?_
            refine va_ldcS (tx := P_st.getD 2 "") hx hb hown (zVR 2 (by decide)) dX6_readEither_37 ?_
            refine hx_goi (hx_runVX (As := [.ref (b0.2.2.2.1 2)]) (rest := []) ⟨hx, hb, hml, hown, hts⟩ hW (gx.S hM) tt_6 (T := TX6) (N := 7) rfl (t_X6_isNextWord l dC dI dA L_3 h_4 H.size b0 x 2 hT (gx.S hM) (by decide) qt (gqt.S hM) ((hM.o gx trivial rfl).2.trans f_x_0)) hZ (cwV 1 hts (hx_gV kw_565 kw_562 kw_564 kw_14 kw_95) rfl rfl rfl (by decide +kernel) ⟨Nat.le_of_ble_eq_true rfl, Nat.le_of_ble_eq_true rfl⟩) rfl hl.1 rfl (Nat.le_of_ble_eq_true rfl) dX6_readEither_39 ⟨Nat.le_of_ble_eq_true rfl, Nat.le_of_ble_eq_true rfl⟩) hW (fun r_12 L_10 h_11 H locs p_13 hW => ?_)
            obtain ⟨⟨w_15, fw_15, hr_14⟩, hT, hs⟩ := p_13
            replace hT : hx_T T_tb L_10 h_11 := hT
            replace hs : hx_S T_tb [(6, 2)] L_3 h_4 L_10 h_11 := hs
            replace fx_1 := (hs.o (gx.S hM) trivial rfl).1.trans fx_1
            replace hM := hM.tr (hs.mono (by decide))
            have fw_15 : h_11.2.1 x 2 = w_15 := fw_15
            have bw_15 := hT.gi (gx.S hM) tt_6 (k := 2) rfl
            rw [fw_15] at bw_15
            have bw_15 : 0 ≤ w_15.toInt ∧ w_15.toInt ≤ 402 := bw_15
            refine lv_istore_n (lv' := [(2, .int r_12), (4, .int iv7_4), (3, .int iv7_3), (0, .ref x), (1, .int (1 : Int32))]) hx hb dX6_readEither_42 rfl hl (by decide) rfl (fun ls hl => ?_)
            refine lv_iload_n hx hb dX6_readEither_43 rfl (lv_at hl 0 rfl) ?_
            refine hb_if_eq (zx := r_12.toInt) (tgt := 60) hx hb rfl dX6_readEither_44 (by decide) (fun c_16 => ?_) (fun c_16 => ?_)
            · skip
              refine lv_iload_n hx hb dX6_readEither_60 rfl (lv_at hl 2 rfl) ?_
              refine hb_if_eq (zx := iv7_3.toInt) (tgt := 73) hx hb rfl dX6_readEither_61 (by decide) (fun c_17 => ?_) (fun c_17 => ?_)
              · skip
                refine lv_aload_n hx hb dX6_readEither_73 rfl (lv_at hl 3 rfl) ?_
                refine va_ldcS (tx := P_st.getD 3 "") hx hb hown (zVR 3 (by decide)) dX6_readEither_74 ?_
                refine hx_goi (hx_runVX (As := [.ref (b0.2.2.2.1 3)]) (rest := []) ⟨hx, hb, hml, hown, hts⟩ hW (gx.S hM) tt_6 (T := TX6) (N := 7) rfl (t_X6_isNextWord l dC dI dA L_10 h_11 H.size b0 x 3 hT (gx.S hM) (by decide) qt (gqt.S hM) ((hM.o gx trivial rfl).2.trans f_x_0)) hZ (cwV 1 hts (hx_gV kw_565 kw_562 kw_564 kw_14 kw_95) rfl rfl rfl (by decide +kernel) ⟨Nat.le_of_ble_eq_true rfl, Nat.le_of_ble_eq_true rfl⟩) rfl hl.1 rfl (Nat.le_of_ble_eq_true rfl) dX6_readEither_76 ⟨Nat.le_of_ble_eq_true rfl, Nat.le_of_ble_eq_true rfl⟩) hW (fun r_20 L_18 h_19 H locs p_21 hW => ?_)
                obtain ⟨⟨w_23, fw_23, hr_22⟩, hT, hs⟩ := p_21
                replace hT : hx_T T_tb L_18 h_19 := hT
                replace hs : hx_S T_tb [(6, 2)] L_10 h_11 L_18 h_19 := hs
                replace fx_1 := (hs.o (gx.S hM) trivial rfl).1.trans fx_1
                replace hM := hM.tr (hs.mono (by decide))
                have fw_23 : h_19.2.1 x 2 = w_23 := fw_23
                have bw_23 := hT.gi (gx.S hM) tt_6 (k := 2) rfl
                rw [fw_23] at bw_23
                have bw_23 : 0 ≤ w_23.toInt ∧ w_23.toInt ≤ 402 := bw_23
                refine lv_istore_n (lv' := [(3, .int r_20), (2, .int r_12), (4, .int iv7_4), (0, .ref x), (1, .int (1 : Int32))]) hx hb dX6_readEither_79 rfl hl (by decide) rfl (fun ls hl => ?_)
                refine lv_iload_n hx hb dX6_readEither_80 rfl (lv_at hl 0 rfl) ?_
                refine hb_if_ne (zx := r_20.toInt) (tgt := 86) hx hb rfl dX6_readEither_81 (by decide) (fun c_24 => ?_) (fun c_24 => ?_)
                · skip
                  refine lv_aload_n hx hb dX6_readEither_86 rfl (lv_at hl 3 rfl) ?_
                  refine lv_dup hx hb dX6_readEither_87 rfl ?_
                  refine hk_geti hx hb hts hC_6 hown hW (gx.S hM) tt_6 2 (by decide) rfl kw_127 ⟨rfl, rfl, rfl⟩ fw_23 dX6_readEither_88 ?_
                  refine lv_iconst (v := 2) hx hb dX6_readEither_91 (by decide) ?_
                  refine lv_iadd hx hb dX6_readEither_92 ?_
                  have rg_25 := i32_r w_23
                  refine lv_topi (fun x_26 ex_26 => ?_)
                  have zx_26 : x_26.toInt = w_23.toInt + 2 := by rw [ex_26]; exact i32_add rfl (by decide) (by omega) (by omega)
                  refine hx_puti hx hb hts hC_6 hown hW hT (hx_S.rf (M := [(6, 2)])) (gx.S hM) tt_6 2 (by decide) rfl kw_127 ⟨rfl, rfl, rfl⟩ rfl (x := x_26) ⟨by omega, by omega⟩ rfl rfl rfl (List.mem_singleton.mpr rfl) dX6_readEither_93 (fun H locs h_27 eh_27 hW hT hs => ?_)
                  replace fx_1 := (hs.o (gx.S hM) trivial rfl).1.trans fx_1
                  replace hM := hM.tr (hs.mono (by decide))
                  have f_28 : h_27.2.1 x 2 = x_26 := by rw [eh_27]; exact hx_pi_at _ _ _ _
                  obtain ⟨x_29, ex_29⟩ : ∃ y : Int32, y = iv7_4 + Int32.ofInt 1 := ⟨_, rfl⟩
                  have rg_30 := i32_r iv7_4
                  have zx_29 : x_29.toInt = iv7_4.toInt + (1) := by rw [ex_29]; exact i32_add rfl (by decide) (by omega) (by omega)
                  refine lv_iinc (v := x_29) (lv' := [(4, .int x_29), (3, .int r_20), (2, .int r_12), (0, .ref x), (1, .int (1 : Int32))]) hx hb dX6_readEither_96 hl (k := 2) rfl ex_29.symm (by decide) rfl (fun ls hl => ?_)
                  refine lv_goto (tgt := 7) hx hb dX6_readEither_99 (by decide) ?_
                  exact ih7 r_12 r_20 x_29 _ _ L_18 h_27 (by omega) (by omega) (by omega) (by omega) (by omega) (by omega)  ls (by omega) hW hT hM   (lv_sub hl [0, 1, 2, 3, 4] rfl)
                · skip
                  refine lv_iconst (v := 1) hx hb dX6_readEither_84 (by decide) ?_
                  exact hx_retz hx hb hr rfl hlk hW ⟨(by decide), hT, hM⟩ dX6_readEither_85
              · skip
                refine lv_aload_n hx hb dX6_readEither_64 rfl (lv_at hl 3 rfl) ?_
                refine hk_getr hx hb hts hC_6 hown hW (gx.S hM) tt_6 6 (by decide) rfl kw_131 ⟨rfl, rfl, rfl⟩ ((hM.o gx trivial rfl).2.trans f_x_6) dX6_readEither_65 ?_
                refine lv_bipush (v := -2) hx hb dX6_readEither_68 (by decide) ?_
                have zc_m2 : (-2 : Int32).toInt = -2 := by decide
                refine hx_gov (hx_runV (As := [.int (-2 : Int32)]) (rest := []) ⟨hx, hb, hml, hown, hts⟩ hW (gqi.S hM) tt_0 (T := TX0) (N := 5) rfl (t_X0_addProof l dC dI dA L_10 h_11 H.size qi (-2 : Int32) hT (gqi.S hM)) (cwV 1 hts (hx_gV kw_583 kw_580 kw_581 kw_582 kw_96) rfl rfl rfl (by decide +kernel) ⟨Nat.le_of_ble_eq_true rfl, Nat.le_of_ble_eq_true rfl⟩) rfl hl.1 rfl (Nat.le_of_ble_eq_true rfl) dX6_readEither_70 ⟨Nat.le_of_ble_eq_true rfl, Nat.le_of_ble_eq_true rfl⟩) hW (fun L_31 h_32 H locs p_34 hW => ?_)
                obtain ⟨hT, hs⟩ := p_34
                replace hT : hx_T T_tb L_31 h_32 := hT
                replace hs : hx_S T_tb [(0, 4), (12, 0)] L_10 h_11 L_31 h_32 := hs
                replace fx_1 := (hs.o (gx.S hM) trivial rfl).1.trans fx_1
                replace fw_15 := (hs.o (gx.S hM) trivial rfl).1.trans fw_15
                replace hM := hM.tr (hs.mono (by decide))
                refine lv_aload_n hx hb dX6_readEither_73 rfl (lv_at hl 3 rfl) ?_
                refine va_ldcS (tx := P_st.getD 3 "") hx hb hown (zVR 3 (by decide)) dX6_readEither_74 ?_
                refine hx_goi (hx_runVX (As := [.ref (b0.2.2.2.1 3)]) (rest := []) ⟨hx, hb, hml, hown, hts⟩ hW (gx.S hM) tt_6 (T := TX6) (N := 7) rfl (t_X6_isNextWord l dC dI dA L_31 h_32 H.size b0 x 3 hT (gx.S hM) (by decide) qt (gqt.S hM) ((hM.o gx trivial rfl).2.trans f_x_0)) hZ (cwV 1 hts (hx_gV kw_565 kw_562 kw_564 kw_14 kw_95) rfl rfl rfl (by decide +kernel) ⟨Nat.le_of_ble_eq_true rfl, Nat.le_of_ble_eq_true rfl⟩) rfl hl.1 rfl (Nat.le_of_ble_eq_true rfl) dX6_readEither_76 ⟨Nat.le_of_ble_eq_true rfl, Nat.le_of_ble_eq_true rfl⟩) hW (fun r_38 L_36 h_37 H locs p_39 hW => ?_)
                obtain ⟨⟨w_41, fw_41, hr_40⟩, hT, hs⟩ := p_39
                replace hT : hx_T T_tb L_36 h_37 := hT
                replace hs : hx_S T_tb [(6, 2)] L_31 h_32 L_36 h_37 := hs
                replace fx_1 := (hs.o (gx.S hM) trivial rfl).1.trans fx_1
                replace hM := hM.tr (hs.mono (by decide))
                have fw_41 : h_37.2.1 x 2 = w_41 := fw_41
                have bw_41 := hT.gi (gx.S hM) tt_6 (k := 2) rfl
                rw [fw_41] at bw_41
                have bw_41 : 0 ≤ w_41.toInt ∧ w_41.toInt ≤ 402 := bw_41
                refine lv_istore_n (lv' := [(3, .int r_38), (2, .int r_12), (4, .int iv7_4), (0, .ref x), (1, .int (1 : Int32))]) hx hb dX6_readEither_79 rfl hl (by decide) rfl (fun ls hl => ?_)
                refine lv_iload_n hx hb dX6_readEither_80 rfl (lv_at hl 0 rfl) ?_
                refine hb_if_ne (zx := r_38.toInt) (tgt := 86) hx hb rfl dX6_readEither_81 (by decide) (fun c_42 => ?_) (fun c_42 => ?_)
                · skip
                  refine lv_aload_n hx hb dX6_readEither_86 rfl (lv_at hl 3 rfl) ?_
                  refine lv_dup hx hb dX6_readEither_87 rfl ?_
                  refine hk_geti hx hb hts hC_6 hown hW (gx.S hM) tt_6 2 (by decide) rfl kw_127 ⟨rfl, rfl, rfl⟩ fw_41 dX6_readEither_88 ?_
                  refine lv_iconst (v := 2) hx hb dX6_readEither_91 (by decide) ?_
                  refine lv_iadd hx hb dX6_readEither_92 ?_
                  have rg_43 := i32_r w_41
                  refine lv_topi (fun x_44 ex_44 => ?_)
                  have zx_44 : x_44.toInt = w_41.toInt + 2 := by rw [ex_44]; exact i32_add rfl (by decide) (by omega) (by omega)
                  refine hx_puti hx hb hts hC_6 hown hW hT (hx_S.rf (M := [(6, 2)])) (gx.S hM) tt_6 2 (by decide) rfl kw_127 ⟨rfl, rfl, rfl⟩ rfl (x := x_44) ⟨by omega, by omega⟩ rfl rfl rfl (List.mem_singleton.mpr rfl) dX6_readEither_93 (fun H locs h_45 eh_45 hW hT hs => ?_)
                  replace fx_1 := (hs.o (gx.S hM) trivial rfl).1.trans fx_1
                  replace hM := hM.tr (hs.mono (by decide))
                  have f_46 : h_45.2.1 x 2 = x_44 := by rw [eh_45]; exact hx_pi_at _ _ _ _
                  obtain ⟨x_47, ex_47⟩ : ∃ y : Int32, y = iv7_4 + Int32.ofInt 1 := ⟨_, rfl⟩
                  have rg_48 := i32_r iv7_4
                  have zx_47 : x_47.toInt = iv7_4.toInt + (1) := by rw [ex_47]; exact i32_add rfl (by decide) (by omega) (by omega)
                  refine lv_iinc (v := x_47) (lv' := [(4, .int x_47), (3, .int r_38), (2, .int r_12), (0, .ref x), (1, .int (1 : Int32))]) hx hb dX6_readEither_96 hl (k := 2) rfl ex_47.symm (by decide) rfl (fun ls hl => ?_)
                  refine lv_goto (tgt := 7) hx hb dX6_readEither_99 (by decide) ?_
                  exact ih7 r_12 r_38 x_47 _ _ L_36 h_45 (by omega) (by omega) (by omega) (by omega) (by omega) (by omega)  ls (by omega) hW hT hM   (lv_sub hl [0, 1, 2, 3, 4] rfl)
                · skip
                  refine lv_iconst (v := 1) hx hb dX6_readEither_84 (by decide) ?_
                  exact hx_retz hx hb hr rfl hlk hW ⟨(by decide), hT, hM⟩ dX6_readEither_85
            · skip
              refine lv_aload_n hx hb dX6_readEither_47 rfl (lv_at hl 3 rfl) ?_
              refine lv_dup hx hb dX6_readEither_48 rfl ?_
              refine hk_geti hx hb hts hC_6 hown hW (gx.S hM) tt_6 2 (by decide) rfl kw_127 ⟨rfl, rfl, rfl⟩ fw_15 dX6_readEither_49 ?_
              refine lv_iconst (v := 3) hx hb dX6_readEither_52 (by decide) ?_
              refine lv_iadd hx hb dX6_readEither_53 ?_
              have rg_49 := i32_r w_15
              refine lv_topi (fun x_50 ex_50 => ?_)
              have zx_50 : x_50.toInt = w_15.toInt + 3 := by rw [ex_50]; exact i32_add rfl (by decide) (by omega) (by omega)
              refine hx_puti hx hb hts hC_6 hown hW hT (hx_S.rf (M := [(6, 2)])) (gx.S hM) tt_6 2 (by decide) rfl kw_127 ⟨rfl, rfl, rfl⟩ rfl (x := x_50) ⟨by omega, by omega⟩ rfl rfl rfl (List.mem_singleton.mpr rfl) dX6_readEither_54 (fun H locs h_51 eh_51 hW hT hs => ?_)
              replace fx_1 := (hs.o (gx.S hM) trivial rfl).1.trans fx_1
              replace hM := hM.tr (hs.mono (by decide))
              have f_52 : h_51.2.1 x 2 = x_50 := by rw [eh_51]; exact hx_pi_at _ _ _ _
              refine lv_goto (tgt := 96) hx hb dX6_readEither_57 (by decide) ?_
              obtain ⟨x_53, ex_53⟩ : ∃ y : Int32, y = iv7_4 + Int32.ofInt 1 := ⟨_, rfl⟩
              have rg_54 := i32_r iv7_4
              have zx_53 : x_53.toInt = iv7_4.toInt + (1) := by rw [ex_53]; exact i32_add rfl (by decide) (by omega) (by omega)
              refine lv_iinc (v := x_53) (lv' := [(4, .int x_53), (2, .int r_12), (3, .int iv7_3), (0, .ref x), (1, .int (1 : Int32))]) hx hb dX6_readEither_96 hl (k := 1) rfl ex_53.symm (by decide) rfl (fun ls hl => ?_)
              refine lv_goto (tgt := 7) hx hb dX6_readEither_99 (by decide) ?_
              exact ih7 r_12 iv7_3 x_53 _ _ L_10 h_51 (by omega) (by omega) (by omega) (by omega) (by omega) (by omega)  ls (by omega) hW hT hM   (lv_sub hl [0, 2, 1, 3, 4] rfl)
          · skip
            refine lv_aload_n hx hb dX6_readEither_28 rfl (lv_at hl 3 rfl) ?_
            refine hk_getr hx hb hts hC_6 hown hW (gx.S hM) tt_6 6 (by decide) rfl kw_131 ⟨rfl, rfl, rfl⟩ ((hM.o gx trivial rfl).2.trans f_x_6) dX6_readEither_29 ?_
            refine lv_iconst (v := -1) hx hb dX6_readEither_32 (by decide) ?_
            have zc_m1 : (-1 : Int32).toInt = -1 := by decide
            refine hx_gov (hx_runV (As := [.int (-1 : Int32)]) (rest := []) ⟨hx, hb, hml, hown, hts⟩ hW (gqi.S hM) tt_0 (T := TX0) (N := 5) rfl (t_X0_addProof l dC dI dA L_3 h_4 H.size qi (-1 : Int32) hT (gqi.S hM)) (cwV 1 hts (hx_gV kw_583 kw_580 kw_581 kw_582 kw_96) rfl rfl rfl (by decide +kernel) ⟨Nat.le_of_ble_eq_true rfl, Nat.le_of_ble_eq_true rfl⟩) rfl hl.1 rfl (Nat.le_of_ble_eq_true rfl) dX6_readEither_33 ⟨Nat.le_of_ble_eq_true rfl, Nat.le_of_ble_eq_true rfl⟩) hW (fun L_55 h_56 H locs p_58 hW => ?_)
            obtain ⟨hT, hs⟩ := p_58
            replace hT : hx_T T_tb L_55 h_56 := hT
            replace hs : hx_S T_tb [(0, 4), (12, 0)] L_3 h_4 L_55 h_56 := hs
            replace fx_1 := (hs.o (gx.S hM) trivial rfl).1.trans fx_1
            replace hM := hM.tr (hs.mono (by decide))
            refine lv_aload_n hx hb dX6_readEither_36 rfl (lv_at hl 3 rfl) ?_
            refine va_ldcS (tx := P_st.getD 2 "") hx hb hown (zVR 2 (by decide)) dX6_readEither_37 ?_
            refine hx_goi (hx_runVX (As := [.ref (b0.2.2.2.1 2)]) (rest := []) ⟨hx, hb, hml, hown, hts⟩ hW (gx.S hM) tt_6 (T := TX6) (N := 7) rfl (t_X6_isNextWord l dC dI dA L_55 h_56 H.size b0 x 2 hT (gx.S hM) (by decide) qt (gqt.S hM) ((hM.o gx trivial rfl).2.trans f_x_0)) hZ (cwV 1 hts (hx_gV kw_565 kw_562 kw_564 kw_14 kw_95) rfl rfl rfl (by decide +kernel) ⟨Nat.le_of_ble_eq_true rfl, Nat.le_of_ble_eq_true rfl⟩) rfl hl.1 rfl (Nat.le_of_ble_eq_true rfl) dX6_readEither_39 ⟨Nat.le_of_ble_eq_true rfl, Nat.le_of_ble_eq_true rfl⟩) hW (fun r_62 L_60 h_61 H locs p_63 hW => ?_)
            obtain ⟨⟨w_65, fw_65, hr_64⟩, hT, hs⟩ := p_63
            replace hT : hx_T T_tb L_60 h_61 := hT
            replace hs : hx_S T_tb [(6, 2)] L_55 h_56 L_60 h_61 := hs
            replace fx_1 := (hs.o (gx.S hM) trivial rfl).1.trans fx_1
            replace hM := hM.tr (hs.mono (by decide))
            have fw_65 : h_61.2.1 x 2 = w_65 := fw_65
            have bw_65 := hT.gi (gx.S hM) tt_6 (k := 2) rfl
            rw [fw_65] at bw_65
            have bw_65 : 0 ≤ w_65.toInt ∧ w_65.toInt ≤ 402 := bw_65
            refine lv_istore_n (lv' := [(2, .int r_62), (4, .int iv7_4), (3, .int iv7_3), (0, .ref x), (1, .int (1 : Int32))]) hx hb dX6_readEither_42 rfl hl (by decide) rfl (fun ls hl => ?_)
            refine lv_iload_n hx hb dX6_readEither_43 rfl (lv_at hl 0 rfl) ?_
            refine hb_if_eq (zx := r_62.toInt) (tgt := 60) hx hb rfl dX6_readEither_44 (by decide) (fun c_66 => ?_) (fun c_66 => ?_)
            · skip
              refine lv_iload_n hx hb dX6_readEither_60 rfl (lv_at hl 2 rfl) ?_
              refine hb_if_eq (zx := iv7_3.toInt) (tgt := 73) hx hb rfl dX6_readEither_61 (by decide) (fun c_67 => ?_) (fun c_67 => ?_)
              · skip
                refine lv_aload_n hx hb dX6_readEither_73 rfl (lv_at hl 3 rfl) ?_
                refine va_ldcS (tx := P_st.getD 3 "") hx hb hown (zVR 3 (by decide)) dX6_readEither_74 ?_
                refine hx_goi (hx_runVX (As := [.ref (b0.2.2.2.1 3)]) (rest := []) ⟨hx, hb, hml, hown, hts⟩ hW (gx.S hM) tt_6 (T := TX6) (N := 7) rfl (t_X6_isNextWord l dC dI dA L_60 h_61 H.size b0 x 3 hT (gx.S hM) (by decide) qt (gqt.S hM) ((hM.o gx trivial rfl).2.trans f_x_0)) hZ (cwV 1 hts (hx_gV kw_565 kw_562 kw_564 kw_14 kw_95) rfl rfl rfl (by decide +kernel) ⟨Nat.le_of_ble_eq_true rfl, Nat.le_of_ble_eq_true rfl⟩) rfl hl.1 rfl (Nat.le_of_ble_eq_true rfl) dX6_readEither_76 ⟨Nat.le_of_ble_eq_true rfl, Nat.le_of_ble_eq_true rfl⟩) hW (fun r_70 L_68 h_69 H locs p_71 hW => ?_)
                obtain ⟨⟨w_73, fw_73, hr_72⟩, hT, hs⟩ := p_71
                replace hT : hx_T T_tb L_68 h_69 := hT
                replace hs : hx_S T_tb [(6, 2)] L_60 h_61 L_68 h_69 := hs
                replace fx_1 := (hs.o (gx.S hM) trivial rfl).1.trans fx_1
                replace hM := hM.tr (hs.mono (by decide))
                have fw_73 : h_69.2.1 x 2 = w_73 := fw_73
                have bw_73 := hT.gi (gx.S hM) tt_6 (k := 2) rfl
                rw [fw_73] at bw_73
                have bw_73 : 0 ≤ w_73.toInt ∧ w_73.toInt ≤ 402 := bw_73
                refine lv_istore_n (lv' := [(3, .int r_70), (2, .int r_62), (4, .int iv7_4), (0, .ref x), (1, .int (1 : Int32))]) hx hb dX6_readEither_79 rfl hl (by decide) rfl (fun ls hl => ?_)
                refine lv_iload_n hx hb dX6_readEither_80 rfl (lv_at hl 0 rfl) ?_
                refine hb_if_ne (zx := r_70.toInt) (tgt := 86) hx hb rfl dX6_readEither_81 (by decide) (fun c_74 => ?_) (fun c_74 => ?_)
                · skip
                  refine lv_aload_n hx hb dX6_readEither_86 rfl (lv_at hl 3 rfl) ?_
                  refine lv_dup hx hb dX6_readEither_87 rfl ?_
                  refine hk_geti hx hb hts hC_6 hown hW (gx.S hM) tt_6 2 (by decide) rfl kw_127 ⟨rfl, rfl, rfl⟩ fw_73 dX6_readEither_88 ?_
                  refine lv_iconst (v := 2) hx hb dX6_readEither_91 (by decide) ?_
                  refine lv_iadd hx hb dX6_readEither_92 ?_
                  have rg_75 := i32_r w_73
                  refine lv_topi (fun x_76 ex_76 => ?_)
                  have zx_76 : x_76.toInt = w_73.toInt + 2 := by rw [ex_76]; exact i32_add rfl (by decide) (by omega) (by omega)
                  refine hx_puti hx hb hts hC_6 hown hW hT (hx_S.rf (M := [(6, 2)])) (gx.S hM) tt_6 2 (by decide) rfl kw_127 ⟨rfl, rfl, rfl⟩ rfl (x := x_76) ⟨by omega, by omega⟩ rfl rfl rfl (List.mem_singleton.mpr rfl) dX6_readEither_93 (fun H locs h_77 eh_77 hW hT hs => ?_)
                  replace fx_1 := (hs.o (gx.S hM) trivial rfl).1.trans fx_1
                  replace hM := hM.tr (hs.mono (by decide))
                  have f_78 : h_77.2.1 x 2 = x_76 := by rw [eh_77]; exact hx_pi_at _ _ _ _
                  obtain ⟨x_79, ex_79⟩ : ∃ y : Int32, y = iv7_4 + Int32.ofInt 1 := ⟨_, rfl⟩
                  have rg_80 := i32_r iv7_4
                  have zx_79 : x_79.toInt = iv7_4.toInt + (1) := by rw [ex_79]; exact i32_add rfl (by decide) (by omega) (by omega)
                  refine lv_iinc (v := x_79) (lv' := [(4, .int x_79), (3, .int r_70), (2, .int r_62), (0, .ref x), (1, .int (1 : Int32))]) hx hb dX6_readEither_96 hl (k := 2) rfl ex_79.symm (by decide) rfl (fun ls hl => ?_)
                  refine lv_goto (tgt := 7) hx hb dX6_readEither_99 (by decide) ?_
                  exact ih7 r_62 r_70 x_79 _ _ L_68 h_77 (by omega) (by omega) (by omega) (by omega) (by omega) (by omega)  ls (by omega) hW hT hM   (lv_sub hl [0, 1, 2, 3, 4] rfl)
                · skip
                  refine lv_iconst (v := 1) hx hb dX6_readEither_84 (by decide) ?_
                  exact hx_retz hx hb hr rfl hlk hW ⟨(by decide), hT, hM⟩ dX6_readEither_85
              · skip
                refine lv_aload_n hx hb dX6_readEither_64 rfl (lv_at hl 3 rfl) ?_
                refine hk_getr hx hb hts hC_6 hown hW (gx.S hM) tt_6 6 (by decide) rfl kw_131 ⟨rfl, rfl, rfl⟩ ((hM.o gx trivial rfl).2.trans f_x_6) dX6_readEither_65 ?_
                refine lv_bipush (v := -2) hx hb dX6_readEither_68 (by decide) ?_
                have zc_m2 : (-2 : Int32).toInt = -2 := by decide
                refine hx_gov (hx_runV (As := [.int (-2 : Int32)]) (rest := []) ⟨hx, hb, hml, hown, hts⟩ hW (gqi.S hM) tt_0 (T := TX0) (N := 5) rfl (t_X0_addProof l dC dI dA L_60 h_61 H.size qi (-2 : Int32) hT (gqi.S hM)) (cwV 1 hts (hx_gV kw_583 kw_580 kw_581 kw_582 kw_96) rfl rfl rfl (by decide +kernel) ⟨Nat.le_of_ble_eq_true rfl, Nat.le_of_ble_eq_true rfl⟩) rfl hl.1 rfl (Nat.le_of_ble_eq_true rfl) dX6_readEither_70 ⟨Nat.le_of_ble_eq_true rfl, Nat.le_of_ble_eq_true rfl⟩) hW (fun L_81 h_82 H locs p_84 hW => ?_)
                obtain ⟨hT, hs⟩ := p_84
                replace hT : hx_T T_tb L_81 h_82 := hT
                replace hs : hx_S T_tb [(0, 4), (12, 0)] L_60 h_61 L_81 h_82 := hs
                replace fx_1 := (hs.o (gx.S hM) trivial rfl).1.trans fx_1
                replace fw_65 := (hs.o (gx.S hM) trivial rfl).1.trans fw_65
                replace hM := hM.tr (hs.mono (by decide))
                refine lv_aload_n hx hb dX6_readEither_73 rfl (lv_at hl 3 rfl) ?_
                refine va_ldcS (tx := P_st.getD 3 "") hx hb hown (zVR 3 (by decide)) dX6_readEither_74 ?_
                refine hx_goi (hx_runVX (As := [.ref (b0.2.2.2.1 3)]) (rest := []) ⟨hx, hb, hml, hown, hts⟩ hW (gx.S hM) tt_6 (T := TX6) (N := 7) rfl (t_X6_isNextWord l dC dI dA L_81 h_82 H.size b0 x 3 hT (gx.S hM) (by decide) qt (gqt.S hM) ((hM.o gx trivial rfl).2.trans f_x_0)) hZ (cwV 1 hts (hx_gV kw_565 kw_562 kw_564 kw_14 kw_95) rfl rfl rfl (by decide +kernel) ⟨Nat.le_of_ble_eq_true rfl, Nat.le_of_ble_eq_true rfl⟩) rfl hl.1 rfl (Nat.le_of_ble_eq_true rfl) dX6_readEither_76 ⟨Nat.le_of_ble_eq_true rfl, Nat.le_of_ble_eq_true rfl⟩) hW (fun r_88 L_86 h_87 H locs p_89 hW => ?_)
                obtain ⟨⟨w_91, fw_91, hr_90⟩, hT, hs⟩ := p_89
                replace hT : hx_T T_tb L_86 h_87 := hT
                replace hs : hx_S T_tb [(6, 2)] L_81 h_82 L_86 h_87 := hs
                replace fx_1 := (hs.o (gx.S hM) trivial rfl).1.trans fx_1
                replace hM := hM.tr (hs.mono (by decide))
                have fw_91 : h_87.2.1 x 2 = w_91 := fw_91
                have bw_91 := hT.gi (gx.S hM) tt_6 (k := 2) rfl
                rw [fw_91] at bw_91
                have bw_91 : 0 ≤ w_91.toInt ∧ w_91.toInt ≤ 402 := bw_91
                refine lv_istore_n (lv' := [(3, .int r_88), (2, .int r_62), (4, .int iv7_4), (0, .ref x), (1, .int (1 : Int32))]) hx hb dX6_readEither_79 rfl hl (by decide) rfl (fun ls hl => ?_)
                refine lv_iload_n hx hb dX6_readEither_80 rfl (lv_at hl 0 rfl) ?_
                refine hb_if_ne (zx := r_88.toInt) (tgt := 86) hx hb rfl dX6_readEither_81 (by decide) (fun c_92 => ?_) (fun c_92 => ?_)
                · skip
                  refine lv_aload_n hx hb dX6_readEither_86 rfl (lv_at hl 3 rfl) ?_
                  refine lv_dup hx hb dX6_readEither_87 rfl ?_
                  refine hk_geti hx hb hts hC_6 hown hW (gx.S hM) tt_6 2 (by decide) rfl kw_127 ⟨rfl, rfl, rfl⟩ fw_91 dX6_readEither_88 ?_
                  refine lv_iconst (v := 2) hx hb dX6_readEither_91 (by decide) ?_
                  refine lv_iadd hx hb dX6_readEither_92 ?_
                  have rg_93 := i32_r w_91
                  refine lv_topi (fun x_94 ex_94 => ?_)
                  have zx_94 : x_94.toInt = w_91.toInt + 2 := by rw [ex_94]; exact i32_add rfl (by decide) (by omega) (by omega)
                  refine hx_puti hx hb hts hC_6 hown hW hT (hx_S.rf (M := [(6, 2)])) (gx.S hM) tt_6 2 (by decide) rfl kw_127 ⟨rfl, rfl, rfl⟩ rfl (x := x_94) ⟨by omega, by omega⟩ rfl rfl rfl (List.mem_singleton.mpr rfl) dX6_readEither_93 (fun H locs h_95 eh_95 hW hT hs => ?_)
                  replace fx_1 := (hs.o (gx.S hM) trivial rfl).1.trans fx_1
                  replace hM := hM.tr (hs.mono (by decide))
                  have f_96 : h_95.2.1 x 2 = x_94 := by rw [eh_95]; exact hx_pi_at _ _ _ _
                  obtain ⟨x_97, ex_97⟩ : ∃ y : Int32, y = iv7_4 + Int32.ofInt 1 := ⟨_, rfl⟩
                  have rg_98 := i32_r iv7_4
                  have zx_97 : x_97.toInt = iv7_4.toInt + (1) := by rw [ex_97]; exact i32_add rfl (by decide) (by omega) (by omega)
                  refine lv_iinc (v := x_97) (lv' := [(4, .int x_97), (3, .int r_88), (2, .int r_62), (0, .ref x), (1, .int (1 : Int32))]) hx hb dX6_readEither_96 hl (k := 2) rfl ex_97.symm (by decide) rfl (fun ls hl => ?_)
                  refine lv_goto (tgt := 7) hx hb dX6_readEither_99 (by decide) ?_
                  exact ih7 r_62 r_88 x_97 _ _ L_86 h_95 (by omega) (by omega) (by omega) (by omega) (by omega) (by omega)  ls (by omega) hW hT hM   (lv_sub hl [0, 1, 2, 3, 4] rfl)
                · skip
                  refine lv_iconst (v := 1) hx hb dX6_readEither_84 (by decide) ?_
                  exact hx_retz hx hb hr rfl hlk hW ⟨(by decide), hT, hM⟩ dX6_readEither_85
            · skip
              refine lv_aload_n hx hb dX6_readEither_47 rfl (lv_at hl 3 rfl) ?_
              refine lv_dup hx hb dX6_readEither_48 rfl ?_
              refine hk_geti hx hb hts hC_6 hown hW (gx.S hM) tt_6 2 (by decide) rfl kw_127 ⟨rfl, rfl, rfl⟩ fw_65 dX6_readEither_49 ?_
              refine lv_iconst (v := 3) hx hb dX6_readEither_52 (by decide) ?_
              refine lv_iadd hx hb dX6_readEither_53 ?_
              have rg_99 := i32_r w_65
              refine lv_topi (fun x_100 ex_100 => ?_)
              have zx_100 : x_100.toInt = w_65.toInt + 3 := by rw [ex_100]; exact i32_add rfl (by decide) (by omega) (by omega)
              refine hx_puti hx hb hts hC_6 hown hW hT (hx_S.rf (M := [(6, 2)])) (gx.S hM) tt_6 2 (by decide) rfl kw_127 ⟨rfl, rfl, rfl⟩ rfl (x := x_100) ⟨by omega, by omega⟩ rfl rfl rfl (List.mem_singleton.mpr rfl) dX6_readEither_54 (fun H locs h_101 eh_101 hW hT hs => ?_)
              replace fx_1 := (hs.o (gx.S hM) trivial rfl).1.trans fx_1
              replace hM := hM.tr (hs.mono (by decide))
              have f_102 : h_101.2.1 x 2 = x_100 := by rw [eh_101]; exact hx_pi_at _ _ _ _
              refine lv_goto (tgt := 96) hx hb dX6_readEither_57 (by decide) ?_
              obtain ⟨x_103, ex_103⟩ : ∃ y : Int32, y = iv7_4 + Int32.ofInt 1 := ⟨_, rfl⟩
              have rg_104 := i32_r iv7_4
              have zx_103 : x_103.toInt = iv7_4.toInt + (1) := by rw [ex_103]; exact i32_add rfl (by decide) (by omega) (by omega)
              refine lv_iinc (v := x_103) (lv' := [(4, .int x_103), (2, .int r_62), (3, .int iv7_3), (0, .ref x), (1, .int (1 : Int32))]) hx hb dX6_readEither_96 hl (k := 1) rfl ex_103.symm (by decide) rfl (fun ls hl => ?_)
              refine lv_goto (tgt := 7) hx hb dX6_readEither_99 (by decide) ?_
              exact ih7 r_62 iv7_3 x_103 _ _ L_60 h_101 (by omega) (by omega) (by omega) (by omega) (by omega) (by omega)  ls (by omega) hW hT hM   (lv_sub hl [0, 2, 1, 3, 4] rfl)
  have zk_0 : (0 : Int32).toInt = 0 := by decide
  have zk_0 : (0 : Int32).toInt = 0 := by decide
  have zk_0 : (0 : Int32).toInt = 0 := by decide
  exact loop7 402 (0 : Int32) (0 : Int32) (0 : Int32) _ _ L h (by decide) (by decide) (by decide) (by decide) (by decide) (by decide)  ls (by omega) hW hT hM   hl


set_option maxHeartbeats 4000000 in
set_option maxRecDepth 100000 in
theorem t_X6_readOne_0 (l : Launch) (dC : Nat → ClassId) (dI : Nat → Nat → Nat) (dA : Nat → ClassId) (L : List Nat) (h : hx_h) (sz : Nat) (b0 : hx_z) (x : Nat) (hT : hx_T T_tb L h) (gx : hx_g L h x 6) (qt : Nat) (gqt : hx_g L h qt 42) (f_x_0 : h.2.2 x 0 = some qt) (qi : Nat) (gqi : hx_g L h qi 0) (f_x_6 : h.2.2 x 6 = some qi) : Met l yX6_readOne (Cond.code yX6_readOne cX6_readOne 3 (some .boolean) :: hx_all) ({ frames := 23, cells := 0, slots := 0, locals := 526 }) (va_Pc [.ref x, .int (0 : Int32)] (hx_BX T_tb (P_ty dA) (dC, dI) vwCl L h sz b0)) (va_Qi (fun (r : Int32) (u : List Nat × hx_h) => (r.toInt = 0 ∨ r.toInt = 1) ∧ hx_T T_tb u.1 u.2 ∧ hx_S T_tb [(0, 4), (6, 2), (6, 3), (6, 5), (12, 0)] L h u.1 u.2) (hx_E T_tb (P_ty dA) (dC, dI) vwCl (hx_A L sz)) (hx_A L sz)) 0 0 (hx_A L sz) := by
  refine hx_metX (lv := [(0, .ref x), (1, .int (0 : Int32))]) (by decide +kernel) rfl (Nat.le_of_ble_eq_true rfl) rfl ?_
  intro p e s m below meth c hx hb hml hr hlk hts0 hown hin hsz hW hZ ls hl
  have hts : ∀ w ∈ hx_all, w.before _ s = true := fun w hw => hts0 w (List.mem_cons_of_mem _ hw)
  have hown : s.vm.findClass "SmallCourt$Reader" = some m.cls := hown
  have hM : hx_S T_tb [(0, 4), (6, 2), (6, 3), (6, 5), (12, 0)] L h L h := hx_S.rf
  obtain ⟨zLT, zLA, zMT, zMA, zCS, zSF, zVS, zVR⟩ := hZ.2.2.2.2.2.2
  refine lv_aload_n hx hb dX6_readOne_0 rfl (lv_at hl 0 rfl) ?_
  refine va_ldcS (tx := P_st.getD 4 "") hx hb hown (zVR 4 (by decide)) dX6_readOne_1 ?_
  refine hx_goi (hx_runVX (As := [.ref (b0.2.2.2.1 4)]) (rest := []) ⟨hx, hb, hml, hown, hts⟩ hW (gx.S hM) tt_6 (T := TX6) (N := 7) rfl (t_X6_isNextWord l dC dI dA L h s.heap.size b0 x 4 hT (gx.S hM) (by decide) qt (gqt.S hM) ((hM.o gx trivial rfl).2.trans f_x_0)) hZ (cwV 1 hts (hx_gV kw_565 kw_562 kw_564 kw_14 kw_95) rfl rfl rfl (by decide +kernel) ⟨Nat.le_of_ble_eq_true rfl, Nat.le_of_ble_eq_true rfl⟩) rfl hl.1 rfl (Nat.le_of_ble_eq_true rfl) dX6_readOne_3 ⟨Nat.le_of_ble_eq_true rfl, Nat.le_of_ble_eq_true rfl⟩) hW (fun r_3 L_1 h_2 H locs p_4 hW => ?_)
  obtain ⟨⟨w_6, fw_6, hr_5⟩, hT, hs⟩ := p_4
  replace hT : hx_T T_tb L_1 h_2 := hT
  replace hs : hx_S T_tb [(6, 2)] L h L_1 h_2 := hs
  replace hM := hM.tr (hs.mono (by decide))
  have fw_6 : h_2.2.1 x 2 = w_6 := fw_6
  have bw_6 := hT.gi (gx.S hM) tt_6 (k := 2) rfl
  rw [fw_6] at bw_6
  have bw_6 : 0 ≤ w_6.toInt ∧ w_6.toInt ≤ 402 := bw_6
  refine lv_istore_n (lv' := [(2, .int r_3), (0, .ref x), (1, .int (0 : Int32))]) hx hb dX6_readOne_6 rfl hl (by decide) rfl (fun ls hl => ?_)
  refine lv_iload_n hx hb dX6_readOne_7 rfl (lv_at hl 0 rfl) ?_
  refine hb_if_ne (zx := r_3.toInt) (tgt := 25) hx hb rfl dX6_readOne_8 (by decide) (fun c_7 => ?_) (fun c_7 => ?_)
  · skip
    refine lv_iload_n hx hb dX6_readOne_25 rfl (lv_at hl 2 rfl) ?_
    refine lv_bipush (v := 8) hx hb dX6_readOne_26 (by decide) ?_
    refine hb_icmp_lt (zx := 0) (zy := 8) (tgt := 41) hx hb (by decide) (by decide) dX6_readOne_28 (by decide) (fun c_8 => ?_) (fun c_8 => absurd c_8 (by decide))
    refine lv_iload_n hx hb dX6_readOne_41 rfl (lv_at hl 0 rfl) ?_
    refine hb_if_eq (zx := r_3.toInt) (tgt := 78) hx hb rfl dX6_readOne_42 (by decide) (fun c_9 => by exfalso; omega) (fun c_9 => ?_)
    refine lv_aload_n hx hb dX6_readOne_45 rfl (lv_at hl 1 rfl) ?_
    refine lv_dup hx hb dX6_readOne_46 rfl ?_
    refine hk_geti hx hb hts hC_6 hown hW (gx.S hM) tt_6 2 (by decide) rfl kw_127 ⟨rfl, rfl, rfl⟩ fw_6 dX6_readOne_47 ?_
    refine lv_iconst (v := 3) hx hb dX6_readOne_50 (by decide) ?_
    refine lv_iadd hx hb dX6_readOne_51 ?_
    have rg_10 := i32_r w_6
    refine lv_topi (fun x_11 ex_11 => ?_)
    have zx_11 : x_11.toInt = w_6.toInt + 3 := by rw [ex_11]; exact i32_add rfl (by decide) (by omega) (by omega)
    refine hx_puti hx hb hts hC_6 hown hW hT (hx_S.rf (M := [(6, 2)])) (gx.S hM) tt_6 2 (by decide) rfl kw_127 ⟨rfl, rfl, rfl⟩ rfl (x := x_11) ⟨by omega, by omega⟩ rfl rfl rfl (List.mem_singleton.mpr rfl) dX6_readOne_52 (fun H locs h_12 eh_12 hW hT hs => ?_)
    replace hM := hM.tr (hs.mono (by decide))
    have f_13 : h_12.2.1 x 2 = x_11 := by rw [eh_12]; exact hx_pi_at _ _ _ _
    refine lv_aload_n hx hb dX6_readOne_55 rfl (lv_at hl 1 rfl) ?_
    refine lv_iload_n hx hb dX6_readOne_56 rfl (lv_at hl 2 rfl) ?_
    refine lv_iconst (v := 1) hx hb dX6_readOne_57 (by decide) ?_
    refine lv_iadd hx hb dX6_readOne_58 ?_
    refine lv_topi (fun x_14 ex_14 => ?_)
    obtain rfl : x_14 = (1 : Int32) := ex_14.trans (by decide)
    have zc_1 : (1 : Int32).toInt = 1 := by decide
    refine hx_goi (hx_runVX (As := [.int (1 : Int32)]) (rest := []) ⟨hx, hb, hml, hown, hts⟩ hW (gx.S hM) tt_6 (T := TX6) (N := 7) rfl (t_X6_readOne_1 l dC dI dA L_1 h_12 H.size b0 x hT (gx.S hM) qt (gqt.S hM) ((hM.o gx trivial rfl).2.trans f_x_0) qi (gqi.S hM) ((hM.o gx trivial rfl).2.trans f_x_6)) hZ (cwV 1 hts (hx_gV kw_560 kw_557 kw_559 kw_13 kw_95) rfl rfl rfl (by decide +kernel) ⟨Nat.le_of_ble_eq_true rfl, Nat.le_of_ble_eq_true rfl⟩) rfl hl.1 rfl (Nat.le_of_ble_eq_true rfl) dX6_readOne_59 ⟨Nat.le_of_ble_eq_true rfl, Nat.le_of_ble_eq_true rfl⟩) hW (fun r_17 L_15 h_16 H locs p_18 hW => ?_)
    obtain ⟨hr_19, hT, hs⟩ := p_18
    replace hT : hx_T T_tb L_15 h_16 := hT
    replace hs : hx_S T_tb [(0, 4), (6, 2), (6, 3), (6, 5), (12, 0)] L_1 h_12 L_15 h_16 := hs
    replace hM := hM.tr (hs.mono (by decide))
    refine hb_if_ne (zx := r_17.toInt) (tgt := 67) hx hb rfl dX6_readOne_62 (by decide) (fun c_20 => ?_) (fun c_20 => ?_)
    · skip
      refine lv_aload_n hx hb dX6_readOne_67 rfl (lv_at hl 1 rfl) ?_
      refine hk_getr hx hb hts hC_6 hown hW (gx.S hM) tt_6 6 (by decide) rfl kw_131 ⟨rfl, rfl, rfl⟩ ((hM.o gx trivial rfl).2.trans f_x_6) dX6_readOne_68 ?_
      refine lv_bipush (v := -3) hx hb dX6_readOne_71 (by decide) ?_
      have zc_m3 : (-3 : Int32).toInt = -3 := by decide
      refine hx_gov (hx_runV (As := [.int (-3 : Int32)]) (rest := []) ⟨hx, hb, hml, hown, hts⟩ hW (gqi.S hM) tt_0 (T := TX0) (N := 5) rfl (t_X0_addProof l dC dI dA L_15 h_16 H.size qi (-3 : Int32) hT (gqi.S hM)) (cwV 1 hts (hx_gV kw_583 kw_580 kw_581 kw_582 kw_96) rfl rfl rfl (by decide +kernel) ⟨Nat.le_of_ble_eq_true rfl, Nat.le_of_ble_eq_true rfl⟩) rfl hl.1 rfl (Nat.le_of_ble_eq_true rfl) dX6_readOne_73 ⟨Nat.le_of_ble_eq_true rfl, Nat.le_of_ble_eq_true rfl⟩) hW (fun L_21 h_22 H locs p_24 hW => ?_)
      obtain ⟨hT, hs⟩ := p_24
      replace hT : hx_T T_tb L_21 h_22 := hT
      replace hs : hx_S T_tb [(0, 4), (12, 0)] L_15 h_16 L_21 h_22 := hs
      replace hM := hM.tr (hs.mono (by decide))
      refine lv_iconst (v := 1) hx hb dX6_readOne_76 (by decide) ?_
      exact hx_retz hx hb hr rfl hlk hW ⟨(by decide), hT, hM⟩ dX6_readOne_77
    · skip
      refine lv_iconst (v := 0) hx hb dX6_readOne_65 (by decide) ?_
      exact hx_retz hx hb hr rfl hlk hW ⟨(by decide), hT, hM⟩ dX6_readOne_66
  · skip
    refine lv_aload_n hx hb dX6_readOne_11 rfl (lv_at hl 1 rfl) ?_
    refine lv_bipush (v := 40) hx hb dX6_readOne_12 (by decide) ?_
    have zc_40 : (40 : Int32).toInt = 40 := by decide
    refine hx_goi (hx_runV (As := [.int (40 : Int32)]) (rest := []) ⟨hx, hb, hml, hown, hts⟩ hW (gx.S hM) tt_6 (T := TX6) (N := 7) rfl (t_X6_isByte l dC dI dA L_1 h_2 H.size x (40 : Int32) hT (gx.S hM) w_6 fw_6 qt (gqt.S hM) ((hM.o gx trivial rfl).2.trans f_x_0)) (cwV 1 hts (hx_gV kw_569 kw_566 kw_568 kw_15 kw_95) rfl rfl rfl (by decide +kernel) ⟨Nat.le_of_ble_eq_true rfl, Nat.le_of_ble_eq_true rfl⟩) rfl hl.1 rfl (Nat.le_of_ble_eq_true rfl) dX6_readOne_14 ⟨Nat.le_of_ble_eq_true rfl, Nat.le_of_ble_eq_true rfl⟩) hW (fun r_28 L_26 h_27 H locs p_29 hW => ?_)
    obtain ⟨hr_30, hT, hs⟩ := p_29
    replace hT : hx_T T_tb L_26 h_27 := hT
    replace hs : hx_S T_tb [] L_1 h_2 L_26 h_27 := hs
    replace fw_6 := (hs.o (gx.S hM) trivial rfl).1.trans fw_6
    replace hM := hM.tr (hs.mono (by decide))
    refine hb_if_ne (zx := r_28.toInt) (tgt := 25) hx hb rfl dX6_readOne_17 (by decide) (fun c_31 => ?_) (fun c_31 => ?_)
    · skip
      refine lv_iload_n hx hb dX6_readOne_25 rfl (lv_at hl 2 rfl) ?_
      refine lv_bipush (v := 8) hx hb dX6_readOne_26 (by decide) ?_
      refine hb_icmp_lt (zx := 0) (zy := 8) (tgt := 41) hx hb (by decide) (by decide) dX6_readOne_28 (by decide) (fun c_32 => ?_) (fun c_32 => absurd c_32 (by decide))
      refine lv_iload_n hx hb dX6_readOne_41 rfl (lv_at hl 0 rfl) ?_
      refine hb_if_eq (zx := r_3.toInt) (tgt := 78) hx hb rfl dX6_readOne_42 (by decide) (fun c_33 => ?_) (fun c_33 => by exfalso; omega)
      refine lv_aload_n hx hb dX6_readOne_78 rfl (lv_at hl 1 rfl) ?_
      refine lv_dup hx hb dX6_readOne_79 rfl ?_
      refine hk_geti hx hb hts hC_6 hown hW (gx.S hM) tt_6 2 (by decide) rfl kw_127 ⟨rfl, rfl, rfl⟩ fw_6 dX6_readOne_80 ?_
      refine lv_iconst (v := 1) hx hb dX6_readOne_83 (by decide) ?_
      refine lv_iadd hx hb dX6_readOne_84 ?_
      have rg_34 := i32_r w_6
      refine lv_topi (fun x_35 ex_35 => ?_)
      have zx_35 : x_35.toInt = w_6.toInt + 1 := by rw [ex_35]; exact i32_add rfl (by decide) (by omega) (by omega)
      refine hx_puti hx hb hts hC_6 hown hW hT (hx_S.rf (M := [(6, 2)])) (gx.S hM) tt_6 2 (by decide) rfl kw_127 ⟨rfl, rfl, rfl⟩ rfl (x := x_35) ⟨by omega, by omega⟩ rfl rfl rfl (List.mem_singleton.mpr rfl) dX6_readOne_85 (fun H locs h_36 eh_36 hW hT hs => ?_)
      replace hM := hM.tr (hs.mono (by decide))
      have f_37 : h_36.2.1 x 2 = x_35 := by rw [eh_36]; exact hx_pi_at _ _ _ _
      refine lv_aload_n hx hb dX6_readOne_88 rfl (lv_at hl 1 rfl) ?_
      refine lv_iload_n hx hb dX6_readOne_89 rfl (lv_at hl 2 rfl) ?_
      refine lv_iconst (v := 1) hx hb dX6_readOne_90 (by decide) ?_
      refine lv_iadd hx hb dX6_readOne_91 ?_
      refine lv_topi (fun x_38 ex_38 => ?_)
      obtain rfl : x_38 = (1 : Int32) := ex_38.trans (by decide)
      have zc_1 : (1 : Int32).toInt = 1 := by decide
      refine hx_goi (hx_runVX (As := [.int (1 : Int32)]) (rest := []) ⟨hx, hb, hml, hown, hts⟩ hW (gx.S hM) tt_6 (T := TX6) (N := 7) rfl (t_X6_readEither_1 l dC dI dA L_26 h_36 H.size b0 x hT (gx.S hM) qt (gqt.S hM) ((hM.o gx trivial rfl).2.trans f_x_0) qi (gqi.S hM) ((hM.o gx trivial rfl).2.trans f_x_6)) hZ (cwV 1 hts (hx_gV kw_556 kw_553 kw_555 kw_12 kw_95) rfl rfl rfl (by decide +kernel) ⟨Nat.le_of_ble_eq_true rfl, Nat.le_of_ble_eq_true rfl⟩) rfl hl.1 rfl (Nat.le_of_ble_eq_true rfl) dX6_readOne_92 ⟨Nat.le_of_ble_eq_true rfl, Nat.le_of_ble_eq_true rfl⟩) hW (fun r_41 L_39 h_40 H locs p_42 hW => ?_)
      obtain ⟨hr_43, hT, hs⟩ := p_42
      replace hT : hx_T T_tb L_39 h_40 := hT
      replace hs : hx_S T_tb [(0, 4), (6, 2), (6, 3), (6, 5), (12, 0)] L_26 h_36 L_39 h_40 := hs
      replace hM := hM.tr (hs.mono (by decide))
      refine hb_if_ne (zx := r_41.toInt) (tgt := 100) hx hb rfl dX6_readOne_95 (by decide) (fun c_44 => ?_) (fun c_44 => ?_)
      · skip
        refine lv_aload_n hx hb dX6_readOne_100 rfl (lv_at hl 1 rfl) ?_
        refine hx_gov (hx_runV (As := []) (rest := []) ⟨hx, hb, hml, hown, hts⟩ hW (gx.S hM) tt_6 (T := TX6) (N := 7) rfl (t_X6_skipBlanks l dC dI dA L_39 h_40 H.size x hT (gx.S hM) qt (gqt.S hM) ((hM.o gx trivial rfl).2.trans f_x_0)) (cwV 0 hts (hx_gV kw_458 kw_455 kw_457 kw_1 kw_95) rfl rfl rfl (by decide +kernel) ⟨Nat.le_of_ble_eq_true rfl, Nat.le_of_ble_eq_true rfl⟩) rfl hl.1 rfl (Nat.le_of_ble_eq_true rfl) dX6_readOne_101 ⟨Nat.le_of_ble_eq_true rfl, Nat.le_of_ble_eq_true rfl⟩) hW (fun L_45 h_46 H locs p_48 hW => ?_)
        obtain ⟨hT, hs⟩ := p_48
        replace hT : hx_T T_tb L_45 h_46 := hT
        replace hs : hx_S T_tb [(6, 2)] L_39 h_40 L_45 h_46 := hs
        replace hM := hM.tr (hs.mono (by decide))
        refine lv_aload_n hx hb dX6_readOne_104 rfl (lv_at hl 1 rfl) ?_
        refine lv_bipush (v := 41) hx hb dX6_readOne_105 (by decide) ?_
        have zc_41 : (41 : Int32).toInt = 41 := by decide
        obtain ⟨fv_50, efv_50⟩ : ∃ y : Int32, y = h_46.2.1 x 2 := ⟨_, rfl⟩
        have bfv_50 := hT.gi (gx.S hM) tt_6 (k := 2) rfl
        rw [← efv_50] at bfv_50
        have bfv_50 : 0 ≤ fv_50.toInt ∧ fv_50.toInt ≤ 402 := bfv_50
        have ffv_50 := efv_50.symm
        refine hx_goi (hx_runV (As := [.int (41 : Int32)]) (rest := []) ⟨hx, hb, hml, hown, hts⟩ hW (gx.S hM) tt_6 (T := TX6) (N := 7) rfl (t_X6_isByte l dC dI dA L_45 h_46 H.size x (41 : Int32) hT (gx.S hM) fv_50 ffv_50 qt (gqt.S hM) ((hM.o gx trivial rfl).2.trans f_x_0)) (cwV 1 hts (hx_gV kw_569 kw_566 kw_568 kw_15 kw_95) rfl rfl rfl (by decide +kernel) ⟨Nat.le_of_ble_eq_true rfl, Nat.le_of_ble_eq_true rfl⟩) rfl hl.1 rfl (Nat.le_of_ble_eq_true rfl) dX6_readOne_107 ⟨Nat.le_of_ble_eq_true rfl, Nat.le_of_ble_eq_true rfl⟩) hW (fun r_53 L_51 h_52 H locs p_54 hW => ?_)
        obtain ⟨hr_55, hT, hs⟩ := p_54
        replace hT : hx_T T_tb L_51 h_52 := hT
        replace hs : hx_S T_tb [] L_45 h_46 L_51 h_52 := hs
        replace ffv_50 := (hs.o (gx.S hM) trivial rfl).1.trans ffv_50
        replace hM := hM.tr (hs.mono (by decide))
        refine hb_if_ne (zx := r_53.toInt) (tgt := 123) hx hb rfl dX6_readOne_110 (by decide) (fun c_56 => ?_) (fun c_56 => ?_)
        · skip
          refine lv_aload_n hx hb dX6_readOne_123 rfl (lv_at hl 1 rfl) ?_
          refine lv_dup hx hb dX6_readOne_124 rfl ?_
          refine hk_geti hx hb hts hC_6 hown hW (gx.S hM) tt_6 2 (by decide) rfl kw_127 ⟨rfl, rfl, rfl⟩ ffv_50 dX6_readOne_125 ?_
          refine lv_iconst (v := 1) hx hb dX6_readOne_128 (by decide) ?_
          refine lv_iadd hx hb dX6_readOne_129 ?_
          have rg_57 := i32_r fv_50
          refine lv_topi (fun x_58 ex_58 => ?_)
          have zx_58 : x_58.toInt = fv_50.toInt + 1 := by rw [ex_58]; exact i32_add rfl (by decide) (by omega) (by omega)
          refine hx_puti hx hb hts hC_6 hown hW hT (hx_S.rf (M := [(6, 2)])) (gx.S hM) tt_6 2 (by decide) rfl kw_127 ⟨rfl, rfl, rfl⟩ rfl (x := x_58) ⟨by omega, by omega⟩ rfl rfl rfl (List.mem_singleton.mpr rfl) dX6_readOne_130 (fun H locs h_59 eh_59 hW hT hs => ?_)
          replace hM := hM.tr (hs.mono (by decide))
          have f_60 : h_59.2.1 x 2 = x_58 := by rw [eh_59]; exact hx_pi_at _ _ _ _
          refine lv_iconst (v := 1) hx hb dX6_readOne_133 (by decide) ?_
          exact hx_retz hx hb hr rfl hlk hW ⟨(by decide), hT, hM⟩ dX6_readOne_134
        · skip
          refine lv_aload_n hx hb dX6_readOne_113 rfl (lv_at hl 1 rfl) ?_
          refine lv_aload_n hx hb dX6_readOne_114 rfl (lv_at hl 1 rfl) ?_
          refine hk_geti hx hb hts hC_6 hown hW (gx.S hM) tt_6 2 (by decide) rfl kw_127 ⟨rfl, rfl, rfl⟩ ffv_50 dX6_readOne_115 ?_
          refine lv_iconst (v := 0) hx hb dX6_readOne_118 (by decide) ?_
          have zc_0 : (0 : Int32).toInt = 0 := by decide
          refine hx_goi (hx_runV (As := [.int fv_50, .int (0 : Int32)]) (rest := []) ⟨hx, hb, hml, hown, hts⟩ hW (gx.S hM) tt_6 (T := TX6) (N := 7) rfl (t_X6_refuse l dC dI dA L_51 h_52 H.size x fv_50 (0 : Int32) hT (gx.S hM)) (cwV 2 hts (hx_gV kw_527 kw_524 kw_526 kw_6 kw_95) rfl rfl rfl (by decide +kernel) ⟨Nat.le_of_ble_eq_true rfl, Nat.le_of_ble_eq_true rfl⟩) rfl hl.1 rfl (Nat.le_of_ble_eq_true rfl) dX6_readOne_119 ⟨Nat.le_of_ble_eq_true rfl, Nat.le_of_ble_eq_true rfl⟩) hW (fun r_63 L_61 h_62 H locs p_64 hW => ?_)
          obtain ⟨hr_65, hT, hs⟩ := p_64
          replace hT : hx_T T_tb L_61 h_62 := hT
          replace hs : hx_S T_tb [(6, 3)] L_51 h_52 L_61 h_62 := hs
          replace ffv_50 := (hs.o (gx.S hM) trivial rfl).1.trans ffv_50
          replace hM := hM.tr (hs.mono (by decide))
          exact hx_retz hx hb hr (hx_nar01 (by omega)) hlk hW ⟨(by omega), hT, hM⟩ dX6_readOne_122
      · skip
        refine lv_iconst (v := 0) hx hb dX6_readOne_98 (by decide) ?_
        exact hx_retz hx hb hr rfl hlk hW ⟨(by decide), hT, hM⟩ dX6_readOne_99
    · skip
      refine lv_aload_n hx hb dX6_readOne_20 rfl (lv_at hl 1 rfl) ?_
      refine hx_goi (hx_runVX (As := []) (rest := []) ⟨hx, hb, hml, hown, hts⟩ hW (gx.S hM) tt_6 (T := TX6) (N := 7) rfl (t_X6_readTerm l dC dI dA L_26 h_27 H.size b0 x hT (gx.S hM) qt (gqt.S hM) ((hM.o gx trivial rfl).2.trans f_x_0) qi (gqi.S hM) ((hM.o gx trivial rfl).2.trans f_x_6)) hZ (cwV 0 hts (hx_gV kw_573 kw_570 kw_572 kw_16 kw_95) rfl rfl rfl (by decide +kernel) ⟨Nat.le_of_ble_eq_true rfl, Nat.le_of_ble_eq_true rfl⟩) rfl hl.1 rfl (Nat.le_of_ble_eq_true rfl) dX6_readOne_21 ⟨Nat.le_of_ble_eq_true rfl, Nat.le_of_ble_eq_true rfl⟩) hW (fun r_68 L_66 h_67 H locs p_69 hW => ?_)
      obtain ⟨hr_70, hT, hs⟩ := p_69
      replace hT : hx_T T_tb L_66 h_67 := hT
      replace hs : hx_S T_tb [(0, 4), (6, 2), (6, 3), (6, 5), (12, 0)] L_26 h_27 L_66 h_67 := hs
      replace hM := hM.tr (hs.mono (by decide))
      exact hx_retz hx hb hr (hx_nar01 (by omega)) hlk hW ⟨(by omega), hT, hM⟩ dX6_readOne_24


set_option maxHeartbeats 4000000 in
set_option maxRecDepth 100000 in
theorem t_X6_readEither_0 (l : Launch) (dC : Nat → ClassId) (dI : Nat → Nat → Nat) (dA : Nat → ClassId) (L : List Nat) (h : hx_h) (sz : Nat) (b0 : hx_z) (x : Nat) (hT : hx_T T_tb L h) (gx : hx_g L h x 6) (qt : Nat) (gqt : hx_g L h qt 42) (f_x_0 : h.2.2 x 0 = some qt) (qi : Nat) (gqi : hx_g L h qi 0) (f_x_6 : h.2.2 x 6 = some qi) : Met l yX6_readEither (Cond.code yX6_readEither cX6_readEither 5 (some .boolean) :: hx_all) ({ frames := 24, cells := 0, slots := 0, locals := 548 }) (va_Pc [.ref x, .int (0 : Int32)] (hx_BX T_tb (P_ty dA) (dC, dI) vwCl L h sz b0)) (va_Qi (fun (r : Int32) (u : List Nat × hx_h) => (r.toInt = 0 ∨ r.toInt = 1) ∧ hx_T T_tb u.1 u.2 ∧ hx_S T_tb [(0, 4), (6, 2), (6, 3), (6, 5), (12, 0)] L h u.1 u.2) (hx_E T_tb (P_ty dA) (dC, dI) vwCl (hx_A L sz)) (hx_A L sz)) 0 0 (hx_A L sz) := by
  refine hx_metX (lv := [(0, .ref x), (1, .int (0 : Int32))]) (by decide +kernel) rfl (Nat.le_of_ble_eq_true rfl) rfl ?_
  intro p e s m below meth c hx hb hml hr hlk hts0 hown hin hsz hW hZ ls hl
  have hts : ∀ w ∈ hx_all, w.before _ s = true := fun w hw => hts0 w (List.mem_cons_of_mem _ hw)
  have hown : s.vm.findClass "SmallCourt$Reader" = some m.cls := hown
  have hM : hx_S T_tb [(0, 4), (6, 2), (6, 3), (6, 5), (12, 0)] L h L h := hx_S.rf
  obtain ⟨zLT, zLA, zMT, zMA, zCS, zSF, zVS, zVR⟩ := hZ.2.2.2.2.2.2
  refine lv_iconst (v := 0) hx hb dX6_readEither_0 (by decide) ?_
  refine lv_istore_n (lv' := [(2, .int (0 : Int32)), (0, .ref x), (1, .int (0 : Int32))]) hx hb dX6_readEither_1 rfl hl (by decide) rfl (fun ls hl => ?_)
  refine lv_iconst (v := 0) hx hb dX6_readEither_2 (by decide) ?_
  refine lv_istore_n (lv' := [(3, .int (0 : Int32)), (2, .int (0 : Int32)), (0, .ref x), (1, .int (0 : Int32))]) hx hb dX6_readEither_3 rfl hl (by decide) rfl (fun ls hl => ?_)
  refine lv_iconst (v := 0) hx hb dX6_readEither_4 (by decide) ?_
  refine lv_istore (lv' := [(4, .int (0 : Int32)), (3, .int (0 : Int32)), (2, .int (0 : Int32)), (0, .ref x), (1, .int (0 : Int32))]) hx hb dX6_readEither_5 hl (by decide) rfl (fun ls hl => ?_)
  have loop7 : ∀ (n7 : Nat) (iv7_2 iv7_3 iv7_4 : Int32) (H : Heap) (locs : List Loc) (hL1 : List Nat) (hl1 : hx_h), 0 ≤ iv7_2.toInt → iv7_2.toInt ≤ 1 → 0 ≤ iv7_3.toInt → iv7_3.toInt ≤ 1 → 0 ≤ iv7_4.toInt → iv7_4.toInt ≤ 401 → ∀ (ls : Array Slot), 401 - iv7_4.toInt < (n7 : Int) → hx_W T_tb (P_ty dA) (dC, dI) vwCl (hx_A L sz) s.heap hL1 hl1 s H locs → hx_T T_tb hL1 hl1 → hx_S T_tb [(0, 4), (6, 2), (6, 3), (6, 5), (12, 0)] L h hL1 hl1 → lv_has ls 5 [(4, .int iv7_4), (3, .int iv7_3), (2, .int iv7_2), (0, .ref x), (1, .int (0 : Int32))] → W p l e ({ frames := 24, cells := 0, slots := 0, locals := 548 }) s m ([.ref x, .int (0 : Int32)] : List Value).toArray below meth c H locs 0 0 (MQ below (va_Qi (fun (r : Int32) (u : List Nat × hx_h) => (r.toInt = 0 ∨ r.toInt = 1) ∧ hx_T T_tb u.1 u.2 ∧ hx_S T_tb [(0, 4), (6, 2), (6, 3), (6, 5), (12, 0)] L h u.1 u.2) (hx_E T_tb (P_ty dA) (dC, dI) vwCl (hx_A L sz)) (hx_A L sz)) ([.ref x, .int (0 : Int32)] : List Value).toArray s 0 0 (hx_A L sz)) (F0 m 7 ls []) := by
    intro n7
    induction n7 with
    | zero => intro iv7_2 iv7_3 iv7_4 H locs hL1 hl1 bliv7_2 buiv7_2 bliv7_3 buiv7_3 bliv7_4 buiv7_4  ls hn7; exfalso; omega
    | succ n7 ih7 =>
      intro iv7_2 iv7_3 iv7_4 H locs hL1 hl1 bliv7_2 buiv7_2 bliv7_3 buiv7_3 bliv7_4 buiv7_4  ls hn7 hW hT hM   hl
      refine lv_iload hx hb dX6_readEither_7 (lv_at hl 0 rfl) ?_
      refine lv_aload_n hx hb dX6_readEither_9 rfl (lv_at hl 3 rfl) ?_
      refine hx_geti hx hb hts hC_6 hown hW hT (gx.S hM) tt_6 1 (by decide) rfl kw_126 ⟨rfl, rfl, rfl⟩ dX6_readEither_10 (fun x_1 ex_1 lx_1 ux_1 => ?_)
      have fx_1 := ex_1.symm
      refine hb_icmp_gt (zx := iv7_4.toInt) (zy := x_1.toInt) (tgt := 102) hx hb rfl rfl dX6_readEither_13 (by decide) (fun c_2 => ?_) (fun c_2 => ?_)
      · skip
        refine lv_iconst (v := 0) hx hb dX6_readEither_102 (by decide) ?_
        exact hx_retz hx hb hr rfl hlk hW ⟨(by decide), hT, hM⟩ dX6_readEither_103
      · skip
        refine lv_aload_n hx hb dX6_readEither_16 rfl (lv_at hl 3 rfl) ?_
        refine lv_iload_n hx hb dX6_readEither_17 rfl (lv_at hl 4 rfl) ?_
        have zc_0 : (0 : Int32).toInt = 0 := by decide
        refine hx_goi (hx_runVX (As := [.int (0 : Int32)]) (rest := []) ⟨hx, hb, hml, hown, hts⟩ hW (gx.S hM) tt_6 (T := TX6) (N := 7) rfl (t_X6_readOne_0 l dC dI dA hL1 hl1 H.size b0 x hT (gx.S hM) qt (gqt.S hM) ((hM.o gx trivial rfl).2.trans f_x_0) qi (gqi.S hM) ((hM.o gx trivial rfl).2.trans f_x_6)) hZ (cwV 1 hts (hx_gV kw_560 kw_557 kw_559 kw_13 kw_95) rfl rfl rfl (by decide +kernel) ⟨Nat.le_of_ble_eq_true rfl, Nat.le_of_ble_eq_true rfl⟩) rfl hl.1 rfl (Nat.le_of_ble_eq_true rfl) dX6_readEither_18 ⟨Nat.le_of_ble_eq_true rfl, Nat.le_of_ble_eq_true rfl⟩) hW (fun r_5 L_3 h_4 H locs p_6 hW => ?_)
        obtain ⟨hr_7, hT, hs⟩ := p_6
        replace hT : hx_T T_tb L_3 h_4 := hT
        replace hs : hx_S T_tb [(0, 4), (6, 2), (6, 3), (6, 5), (12, 0)] hL1 hl1 L_3 h_4 := hs
        replace fx_1 := (hs.o (gx.S hM) trivial rfl).1.trans fx_1
        replace hM := hM.tr (hs.mono (by decide))
        refine hb_if_eq (zx := r_5.toInt) (tgt := 102) hx hb rfl dX6_readEither_21 (by decide) (fun c_8 => ?_) (fun c_8 => ?_)
        · skip
          refine lv_iconst (v := 0) hx hb dX6_readEither_102 (by decide) ?_
          exact hx_retz hx hb hr rfl hlk hW ⟨(by decide), hT, hM⟩ dX6_readEither_103
        · skip
          refine lv_iload_n hx hb dX6_readEither_24 rfl (lv_at hl 2 rfl) ?_
          refine hb_if_eq (zx := iv7_2.toInt) (tgt := 36) hx hb rfl dX6_readEither_25 (by decide) (fun c_9 => ?_) (fun c_9 => ?_)
          · skip
            refine lv_aload_n hx hb dX6_readEither_36 rfl (lv_at hl 3 rfl) ?_
            refine va_ldcS (tx := P_st.getD 2 "") hx hb hown (zVR 2 (by decide)) dX6_readEither_37 ?_
            refine hx_goi (hx_runVX (As := [.ref (b0.2.2.2.1 2)]) (rest := []) ⟨hx, hb, hml, hown, hts⟩ hW (gx.S hM) tt_6 (T := TX6) (N := 7) rfl (t_X6_isNextWord l dC dI dA L_3 h_4 H.size b0 x 2 hT (gx.S hM) (by decide) qt (gqt.S hM) ((hM.o gx trivial rfl).2.trans f_x_0)) hZ (cwV 1 hts (hx_gV kw_565 kw_562 kw_564 kw_14 kw_95) rfl rfl rfl (by decide +kernel) ⟨Nat.le_of_ble_eq_true rfl, Nat.le_of_ble_eq_true rfl⟩) rfl hl.1 rfl (Nat.le_of_ble_eq_true rfl) dX6_readEither_39 ⟨Nat.le_of_ble_eq_true rfl, Nat.le_of_ble_eq_true rfl⟩) hW (fun r_12 L_10 h_11 H locs p_13 hW => ?_)
            obtain ⟨⟨w_15, fw_15, hr_14⟩, hT, hs⟩ := p_13
            replace hT : hx_T T_tb L_10 h_11 := hT
            replace hs : hx_S T_tb [(6, 2)] L_3 h_4 L_10 h_11 := hs
            replace fx_1 := (hs.o (gx.S hM) trivial rfl).1.trans fx_1
            replace hM := hM.tr (hs.mono (by decide))
            have fw_15 : h_11.2.1 x 2 = w_15 := fw_15
            have bw_15 := hT.gi (gx.S hM) tt_6 (k := 2) rfl
            rw [fw_15] at bw_15
            have bw_15 : 0 ≤ w_15.toInt ∧ w_15.toInt ≤ 402 := bw_15
            refine lv_istore_n (lv' := [(2, .int r_12), (4, .int iv7_4), (3, .int iv7_3), (0, .ref x), (1, .int (0 : Int32))]) hx hb dX6_readEither_42 rfl hl (by decide) rfl (fun ls hl => ?_)
            refine lv_iload_n hx hb dX6_readEither_43 rfl (lv_at hl 0 rfl) ?_
            refine hb_if_eq (zx := r_12.toInt) (tgt := 60) hx hb rfl dX6_readEither_44 (by decide) (fun c_16 => ?_) (fun c_16 => ?_)
            · skip
              refine lv_iload_n hx hb dX6_readEither_60 rfl (lv_at hl 2 rfl) ?_
              refine hb_if_eq (zx := iv7_3.toInt) (tgt := 73) hx hb rfl dX6_readEither_61 (by decide) (fun c_17 => ?_) (fun c_17 => ?_)
              · skip
                refine lv_aload_n hx hb dX6_readEither_73 rfl (lv_at hl 3 rfl) ?_
                refine va_ldcS (tx := P_st.getD 3 "") hx hb hown (zVR 3 (by decide)) dX6_readEither_74 ?_
                refine hx_goi (hx_runVX (As := [.ref (b0.2.2.2.1 3)]) (rest := []) ⟨hx, hb, hml, hown, hts⟩ hW (gx.S hM) tt_6 (T := TX6) (N := 7) rfl (t_X6_isNextWord l dC dI dA L_10 h_11 H.size b0 x 3 hT (gx.S hM) (by decide) qt (gqt.S hM) ((hM.o gx trivial rfl).2.trans f_x_0)) hZ (cwV 1 hts (hx_gV kw_565 kw_562 kw_564 kw_14 kw_95) rfl rfl rfl (by decide +kernel) ⟨Nat.le_of_ble_eq_true rfl, Nat.le_of_ble_eq_true rfl⟩) rfl hl.1 rfl (Nat.le_of_ble_eq_true rfl) dX6_readEither_76 ⟨Nat.le_of_ble_eq_true rfl, Nat.le_of_ble_eq_true rfl⟩) hW (fun r_20 L_18 h_19 H locs p_21 hW => ?_)
                obtain ⟨⟨w_23, fw_23, hr_22⟩, hT, hs⟩ := p_21
                replace hT : hx_T T_tb L_18 h_19 := hT
                replace hs : hx_S T_tb [(6, 2)] L_10 h_11 L_18 h_19 := hs
                replace fx_1 := (hs.o (gx.S hM) trivial rfl).1.trans fx_1
                replace hM := hM.tr (hs.mono (by decide))
                have fw_23 : h_19.2.1 x 2 = w_23 := fw_23
                have bw_23 := hT.gi (gx.S hM) tt_6 (k := 2) rfl
                rw [fw_23] at bw_23
                have bw_23 : 0 ≤ w_23.toInt ∧ w_23.toInt ≤ 402 := bw_23
                refine lv_istore_n (lv' := [(3, .int r_20), (2, .int r_12), (4, .int iv7_4), (0, .ref x), (1, .int (0 : Int32))]) hx hb dX6_readEither_79 rfl hl (by decide) rfl (fun ls hl => ?_)
                refine lv_iload_n hx hb dX6_readEither_80 rfl (lv_at hl 0 rfl) ?_
                refine hb_if_ne (zx := r_20.toInt) (tgt := 86) hx hb rfl dX6_readEither_81 (by decide) (fun c_24 => ?_) (fun c_24 => ?_)
                · skip
                  refine lv_aload_n hx hb dX6_readEither_86 rfl (lv_at hl 3 rfl) ?_
                  refine lv_dup hx hb dX6_readEither_87 rfl ?_
                  refine hk_geti hx hb hts hC_6 hown hW (gx.S hM) tt_6 2 (by decide) rfl kw_127 ⟨rfl, rfl, rfl⟩ fw_23 dX6_readEither_88 ?_
                  refine lv_iconst (v := 2) hx hb dX6_readEither_91 (by decide) ?_
                  refine lv_iadd hx hb dX6_readEither_92 ?_
                  have rg_25 := i32_r w_23
                  refine lv_topi (fun x_26 ex_26 => ?_)
                  have zx_26 : x_26.toInt = w_23.toInt + 2 := by rw [ex_26]; exact i32_add rfl (by decide) (by omega) (by omega)
                  refine hx_puti hx hb hts hC_6 hown hW hT (hx_S.rf (M := [(6, 2)])) (gx.S hM) tt_6 2 (by decide) rfl kw_127 ⟨rfl, rfl, rfl⟩ rfl (x := x_26) ⟨by omega, by omega⟩ rfl rfl rfl (List.mem_singleton.mpr rfl) dX6_readEither_93 (fun H locs h_27 eh_27 hW hT hs => ?_)
                  replace fx_1 := (hs.o (gx.S hM) trivial rfl).1.trans fx_1
                  replace hM := hM.tr (hs.mono (by decide))
                  have f_28 : h_27.2.1 x 2 = x_26 := by rw [eh_27]; exact hx_pi_at _ _ _ _
                  obtain ⟨x_29, ex_29⟩ : ∃ y : Int32, y = iv7_4 + Int32.ofInt 1 := ⟨_, rfl⟩
                  have rg_30 := i32_r iv7_4
                  have zx_29 : x_29.toInt = iv7_4.toInt + (1) := by rw [ex_29]; exact i32_add rfl (by decide) (by omega) (by omega)
                  refine lv_iinc (v := x_29) (lv' := [(4, .int x_29), (3, .int r_20), (2, .int r_12), (0, .ref x), (1, .int (0 : Int32))]) hx hb dX6_readEither_96 hl (k := 2) rfl ex_29.symm (by decide) rfl (fun ls hl => ?_)
                  refine lv_goto (tgt := 7) hx hb dX6_readEither_99 (by decide) ?_
                  exact ih7 r_12 r_20 x_29 _ _ L_18 h_27 (by omega) (by omega) (by omega) (by omega) (by omega) (by omega)  ls (by omega) hW hT hM   (lv_sub hl [0, 1, 2, 3, 4] rfl)
                · skip
                  refine lv_iconst (v := 1) hx hb dX6_readEither_84 (by decide) ?_
                  exact hx_retz hx hb hr rfl hlk hW ⟨(by decide), hT, hM⟩ dX6_readEither_85
              · skip
                refine lv_aload_n hx hb dX6_readEither_64 rfl (lv_at hl 3 rfl) ?_
                refine hk_getr hx hb hts hC_6 hown hW (gx.S hM) tt_6 6 (by decide) rfl kw_131 ⟨rfl, rfl, rfl⟩ ((hM.o gx trivial rfl).2.trans f_x_6) dX6_readEither_65 ?_
                refine lv_bipush (v := -2) hx hb dX6_readEither_68 (by decide) ?_
                have zc_m2 : (-2 : Int32).toInt = -2 := by decide
                refine hx_gov (hx_runV (As := [.int (-2 : Int32)]) (rest := []) ⟨hx, hb, hml, hown, hts⟩ hW (gqi.S hM) tt_0 (T := TX0) (N := 5) rfl (t_X0_addProof l dC dI dA L_10 h_11 H.size qi (-2 : Int32) hT (gqi.S hM)) (cwV 1 hts (hx_gV kw_583 kw_580 kw_581 kw_582 kw_96) rfl rfl rfl (by decide +kernel) ⟨Nat.le_of_ble_eq_true rfl, Nat.le_of_ble_eq_true rfl⟩) rfl hl.1 rfl (Nat.le_of_ble_eq_true rfl) dX6_readEither_70 ⟨Nat.le_of_ble_eq_true rfl, Nat.le_of_ble_eq_true rfl⟩) hW (fun L_31 h_32 H locs p_34 hW => ?_)
                obtain ⟨hT, hs⟩ := p_34
                replace hT : hx_T T_tb L_31 h_32 := hT
                replace hs : hx_S T_tb [(0, 4), (12, 0)] L_10 h_11 L_31 h_32 := hs
                replace fx_1 := (hs.o (gx.S hM) trivial rfl).1.trans fx_1
                replace fw_15 := (hs.o (gx.S hM) trivial rfl).1.trans fw_15
                replace hM := hM.tr (hs.mono (by decide))
                refine lv_aload_n hx hb dX6_readEither_73 rfl (lv_at hl 3 rfl) ?_
                refine va_ldcS (tx := P_st.getD 3 "") hx hb hown (zVR 3 (by decide)) dX6_readEither_74 ?_
                refine hx_goi (hx_runVX (As := [.ref (b0.2.2.2.1 3)]) (rest := []) ⟨hx, hb, hml, hown, hts⟩ hW (gx.S hM) tt_6 (T := TX6) (N := 7) rfl (t_X6_isNextWord l dC dI dA L_31 h_32 H.size b0 x 3 hT (gx.S hM) (by decide) qt (gqt.S hM) ((hM.o gx trivial rfl).2.trans f_x_0)) hZ (cwV 1 hts (hx_gV kw_565 kw_562 kw_564 kw_14 kw_95) rfl rfl rfl (by decide +kernel) ⟨Nat.le_of_ble_eq_true rfl, Nat.le_of_ble_eq_true rfl⟩) rfl hl.1 rfl (Nat.le_of_ble_eq_true rfl) dX6_readEither_76 ⟨Nat.le_of_ble_eq_true rfl, Nat.le_of_ble_eq_true rfl⟩) hW (fun r_38 L_36 h_37 H locs p_39 hW => ?_)
                obtain ⟨⟨w_41, fw_41, hr_40⟩, hT, hs⟩ := p_39
                replace hT : hx_T T_tb L_36 h_37 := hT
                replace hs : hx_S T_tb [(6, 2)] L_31 h_32 L_36 h_37 := hs
                replace fx_1 := (hs.o (gx.S hM) trivial rfl).1.trans fx_1
                replace hM := hM.tr (hs.mono (by decide))
                have fw_41 : h_37.2.1 x 2 = w_41 := fw_41
                have bw_41 := hT.gi (gx.S hM) tt_6 (k := 2) rfl
                rw [fw_41] at bw_41
                have bw_41 : 0 ≤ w_41.toInt ∧ w_41.toInt ≤ 402 := bw_41
                refine lv_istore_n (lv' := [(3, .int r_38), (2, .int r_12), (4, .int iv7_4), (0, .ref x), (1, .int (0 : Int32))]) hx hb dX6_readEither_79 rfl hl (by decide) rfl (fun ls hl => ?_)
                refine lv_iload_n hx hb dX6_readEither_80 rfl (lv_at hl 0 rfl) ?_
                refine hb_if_ne (zx := r_38.toInt) (tgt := 86) hx hb rfl dX6_readEither_81 (by decide) (fun c_42 => ?_) (fun c_42 => ?_)
                · skip
                  refine lv_aload_n hx hb dX6_readEither_86 rfl (lv_at hl 3 rfl) ?_
                  refine lv_dup hx hb dX6_readEither_87 rfl ?_
                  refine hk_geti hx hb hts hC_6 hown hW (gx.S hM) tt_6 2 (by decide) rfl kw_127 ⟨rfl, rfl, rfl⟩ fw_41 dX6_readEither_88 ?_
                  refine lv_iconst (v := 2) hx hb dX6_readEither_91 (by decide) ?_
                  refine lv_iadd hx hb dX6_readEither_92 ?_
                  have rg_43 := i32_r w_41
                  refine lv_topi (fun x_44 ex_44 => ?_)
                  have zx_44 : x_44.toInt = w_41.toInt + 2 := by rw [ex_44]; exact i32_add rfl (by decide) (by omega) (by omega)
                  refine hx_puti hx hb hts hC_6 hown hW hT (hx_S.rf (M := [(6, 2)])) (gx.S hM) tt_6 2 (by decide) rfl kw_127 ⟨rfl, rfl, rfl⟩ rfl (x := x_44) ⟨by omega, by omega⟩ rfl rfl rfl (List.mem_singleton.mpr rfl) dX6_readEither_93 (fun H locs h_45 eh_45 hW hT hs => ?_)
                  replace fx_1 := (hs.o (gx.S hM) trivial rfl).1.trans fx_1
                  replace hM := hM.tr (hs.mono (by decide))
                  have f_46 : h_45.2.1 x 2 = x_44 := by rw [eh_45]; exact hx_pi_at _ _ _ _
                  obtain ⟨x_47, ex_47⟩ : ∃ y : Int32, y = iv7_4 + Int32.ofInt 1 := ⟨_, rfl⟩
                  have rg_48 := i32_r iv7_4
                  have zx_47 : x_47.toInt = iv7_4.toInt + (1) := by rw [ex_47]; exact i32_add rfl (by decide) (by omega) (by omega)
                  refine lv_iinc (v := x_47) (lv' := [(4, .int x_47), (3, .int r_38), (2, .int r_12), (0, .ref x), (1, .int (0 : Int32))]) hx hb dX6_readEither_96 hl (k := 2) rfl ex_47.symm (by decide) rfl (fun ls hl => ?_)
                  refine lv_goto (tgt := 7) hx hb dX6_readEither_99 (by decide) ?_
                  exact ih7 r_12 r_38 x_47 _ _ L_36 h_45 (by omega) (by omega) (by omega) (by omega) (by omega) (by omega)  ls (by omega) hW hT hM   (lv_sub hl [0, 1, 2, 3, 4] rfl)
                · skip
                  refine lv_iconst (v := 1) hx hb dX6_readEither_84 (by decide) ?_
                  exact hx_retz hx hb hr rfl hlk hW ⟨(by decide), hT, hM⟩ dX6_readEither_85
            · skip
              refine lv_aload_n hx hb dX6_readEither_47 rfl (lv_at hl 3 rfl) ?_
              refine lv_dup hx hb dX6_readEither_48 rfl ?_
              refine hk_geti hx hb hts hC_6 hown hW (gx.S hM) tt_6 2 (by decide) rfl kw_127 ⟨rfl, rfl, rfl⟩ fw_15 dX6_readEither_49 ?_
              refine lv_iconst (v := 3) hx hb dX6_readEither_52 (by decide) ?_
              refine lv_iadd hx hb dX6_readEither_53 ?_
              have rg_49 := i32_r w_15
              refine lv_topi (fun x_50 ex_50 => ?_)
              have zx_50 : x_50.toInt = w_15.toInt + 3 := by rw [ex_50]; exact i32_add rfl (by decide) (by omega) (by omega)
              refine hx_puti hx hb hts hC_6 hown hW hT (hx_S.rf (M := [(6, 2)])) (gx.S hM) tt_6 2 (by decide) rfl kw_127 ⟨rfl, rfl, rfl⟩ rfl (x := x_50) ⟨by omega, by omega⟩ rfl rfl rfl (List.mem_singleton.mpr rfl) dX6_readEither_54 (fun H locs h_51 eh_51 hW hT hs => ?_)
              replace fx_1 := (hs.o (gx.S hM) trivial rfl).1.trans fx_1
              replace hM := hM.tr (hs.mono (by decide))
              have f_52 : h_51.2.1 x 2 = x_50 := by rw [eh_51]; exact hx_pi_at _ _ _ _
              refine lv_goto (tgt := 96) hx hb dX6_readEither_57 (by decide) ?_
              obtain ⟨x_53, ex_53⟩ : ∃ y : Int32, y = iv7_4 + Int32.ofInt 1 := ⟨_, rfl⟩
              have rg_54 := i32_r iv7_4
              have zx_53 : x_53.toInt = iv7_4.toInt + (1) := by rw [ex_53]; exact i32_add rfl (by decide) (by omega) (by omega)
              refine lv_iinc (v := x_53) (lv' := [(4, .int x_53), (2, .int r_12), (3, .int iv7_3), (0, .ref x), (1, .int (0 : Int32))]) hx hb dX6_readEither_96 hl (k := 1) rfl ex_53.symm (by decide) rfl (fun ls hl => ?_)
              refine lv_goto (tgt := 7) hx hb dX6_readEither_99 (by decide) ?_
              exact ih7 r_12 iv7_3 x_53 _ _ L_10 h_51 (by omega) (by omega) (by omega) (by omega) (by omega) (by omega)  ls (by omega) hW hT hM   (lv_sub hl [0, 2, 1, 3, 4] rfl)
          · skip
            refine lv_aload_n hx hb dX6_readEither_28 rfl (lv_at hl 3 rfl) ?_
            refine hk_getr hx hb hts hC_6 hown hW (gx.S hM) tt_6 6 (by decide) rfl kw_131 ⟨rfl, rfl, rfl⟩ ((hM.o gx trivial rfl).2.trans f_x_6) dX6_readEither_29 ?_
            refine lv_iconst (v := -1) hx hb dX6_readEither_32 (by decide) ?_
            have zc_m1 : (-1 : Int32).toInt = -1 := by decide
            refine hx_gov (hx_runV (As := [.int (-1 : Int32)]) (rest := []) ⟨hx, hb, hml, hown, hts⟩ hW (gqi.S hM) tt_0 (T := TX0) (N := 5) rfl (t_X0_addProof l dC dI dA L_3 h_4 H.size qi (-1 : Int32) hT (gqi.S hM)) (cwV 1 hts (hx_gV kw_583 kw_580 kw_581 kw_582 kw_96) rfl rfl rfl (by decide +kernel) ⟨Nat.le_of_ble_eq_true rfl, Nat.le_of_ble_eq_true rfl⟩) rfl hl.1 rfl (Nat.le_of_ble_eq_true rfl) dX6_readEither_33 ⟨Nat.le_of_ble_eq_true rfl, Nat.le_of_ble_eq_true rfl⟩) hW (fun L_55 h_56 H locs p_58 hW => ?_)
            obtain ⟨hT, hs⟩ := p_58
            replace hT : hx_T T_tb L_55 h_56 := hT
            replace hs : hx_S T_tb [(0, 4), (12, 0)] L_3 h_4 L_55 h_56 := hs
            replace fx_1 := (hs.o (gx.S hM) trivial rfl).1.trans fx_1
            replace hM := hM.tr (hs.mono (by decide))
            refine lv_aload_n hx hb dX6_readEither_36 rfl (lv_at hl 3 rfl) ?_
            refine va_ldcS (tx := P_st.getD 2 "") hx hb hown (zVR 2 (by decide)) dX6_readEither_37 ?_
            refine hx_goi (hx_runVX (As := [.ref (b0.2.2.2.1 2)]) (rest := []) ⟨hx, hb, hml, hown, hts⟩ hW (gx.S hM) tt_6 (T := TX6) (N := 7) rfl (t_X6_isNextWord l dC dI dA L_55 h_56 H.size b0 x 2 hT (gx.S hM) (by decide) qt (gqt.S hM) ((hM.o gx trivial rfl).2.trans f_x_0)) hZ (cwV 1 hts (hx_gV kw_565 kw_562 kw_564 kw_14 kw_95) rfl rfl rfl (by decide +kernel) ⟨Nat.le_of_ble_eq_true rfl, Nat.le_of_ble_eq_true rfl⟩) rfl hl.1 rfl (Nat.le_of_ble_eq_true rfl) dX6_readEither_39 ⟨Nat.le_of_ble_eq_true rfl, Nat.le_of_ble_eq_true rfl⟩) hW (fun r_62 L_60 h_61 H locs p_63 hW => ?_)
            obtain ⟨⟨w_65, fw_65, hr_64⟩, hT, hs⟩ := p_63
            replace hT : hx_T T_tb L_60 h_61 := hT
            replace hs : hx_S T_tb [(6, 2)] L_55 h_56 L_60 h_61 := hs
            replace fx_1 := (hs.o (gx.S hM) trivial rfl).1.trans fx_1
            replace hM := hM.tr (hs.mono (by decide))
            have fw_65 : h_61.2.1 x 2 = w_65 := fw_65
            have bw_65 := hT.gi (gx.S hM) tt_6 (k := 2) rfl
            rw [fw_65] at bw_65
            have bw_65 : 0 ≤ w_65.toInt ∧ w_65.toInt ≤ 402 := bw_65
            refine lv_istore_n (lv' := [(2, .int r_62), (4, .int iv7_4), (3, .int iv7_3), (0, .ref x), (1, .int (0 : Int32))]) hx hb dX6_readEither_42 rfl hl (by decide) rfl (fun ls hl => ?_)
            refine lv_iload_n hx hb dX6_readEither_43 rfl (lv_at hl 0 rfl) ?_
            refine hb_if_eq (zx := r_62.toInt) (tgt := 60) hx hb rfl dX6_readEither_44 (by decide) (fun c_66 => ?_) (fun c_66 => ?_)
            · skip
              refine lv_iload_n hx hb dX6_readEither_60 rfl (lv_at hl 2 rfl) ?_
              refine hb_if_eq (zx := iv7_3.toInt) (tgt := 73) hx hb rfl dX6_readEither_61 (by decide) (fun c_67 => ?_) (fun c_67 => ?_)
              · skip
                refine lv_aload_n hx hb dX6_readEither_73 rfl (lv_at hl 3 rfl) ?_
                refine va_ldcS (tx := P_st.getD 3 "") hx hb hown (zVR 3 (by decide)) dX6_readEither_74 ?_
                refine hx_goi (hx_runVX (As := [.ref (b0.2.2.2.1 3)]) (rest := []) ⟨hx, hb, hml, hown, hts⟩ hW (gx.S hM) tt_6 (T := TX6) (N := 7) rfl (t_X6_isNextWord l dC dI dA L_60 h_61 H.size b0 x 3 hT (gx.S hM) (by decide) qt (gqt.S hM) ((hM.o gx trivial rfl).2.trans f_x_0)) hZ (cwV 1 hts (hx_gV kw_565 kw_562 kw_564 kw_14 kw_95) rfl rfl rfl (by decide +kernel) ⟨Nat.le_of_ble_eq_true rfl, Nat.le_of_ble_eq_true rfl⟩) rfl hl.1 rfl (Nat.le_of_ble_eq_true rfl) dX6_readEither_76 ⟨Nat.le_of_ble_eq_true rfl, Nat.le_of_ble_eq_true rfl⟩) hW (fun r_70 L_68 h_69 H locs p_71 hW => ?_)
                obtain ⟨⟨w_73, fw_73, hr_72⟩, hT, hs⟩ := p_71
                replace hT : hx_T T_tb L_68 h_69 := hT
                replace hs : hx_S T_tb [(6, 2)] L_60 h_61 L_68 h_69 := hs
                replace fx_1 := (hs.o (gx.S hM) trivial rfl).1.trans fx_1
                replace hM := hM.tr (hs.mono (by decide))
                have fw_73 : h_69.2.1 x 2 = w_73 := fw_73
                have bw_73 := hT.gi (gx.S hM) tt_6 (k := 2) rfl
                rw [fw_73] at bw_73
                have bw_73 : 0 ≤ w_73.toInt ∧ w_73.toInt ≤ 402 := bw_73
                refine lv_istore_n (lv' := [(3, .int r_70), (2, .int r_62), (4, .int iv7_4), (0, .ref x), (1, .int (0 : Int32))]) hx hb dX6_readEither_79 rfl hl (by decide) rfl (fun ls hl => ?_)
                refine lv_iload_n hx hb dX6_readEither_80 rfl (lv_at hl 0 rfl) ?_
                refine hb_if_ne (zx := r_70.toInt) (tgt := 86) hx hb rfl dX6_readEither_81 (by decide) (fun c_74 => ?_) (fun c_74 => ?_)
                · skip
                  refine lv_aload_n hx hb dX6_readEither_86 rfl (lv_at hl 3 rfl) ?_
                  refine lv_dup hx hb dX6_readEither_87 rfl ?_
                  refine hk_geti hx hb hts hC_6 hown hW (gx.S hM) tt_6 2 (by decide) rfl kw_127 ⟨rfl, rfl, rfl⟩ fw_73 dX6_readEither_88 ?_
                  refine lv_iconst (v := 2) hx hb dX6_readEither_91 (by decide) ?_
                  refine lv_iadd hx hb dX6_readEither_92 ?_
                  have rg_75 := i32_r w_73
                  refine lv_topi (fun x_76 ex_76 => ?_)
                  have zx_76 : x_76.toInt = w_73.toInt + 2 := by rw [ex_76]; exact i32_add rfl (by decide) (by omega) (by omega)
                  refine hx_puti hx hb hts hC_6 hown hW hT (hx_S.rf (M := [(6, 2)])) (gx.S hM) tt_6 2 (by decide) rfl kw_127 ⟨rfl, rfl, rfl⟩ rfl (x := x_76) ⟨by omega, by omega⟩ rfl rfl rfl (List.mem_singleton.mpr rfl) dX6_readEither_93 (fun H locs h_77 eh_77 hW hT hs => ?_)
                  replace fx_1 := (hs.o (gx.S hM) trivial rfl).1.trans fx_1
                  replace hM := hM.tr (hs.mono (by decide))
                  have f_78 : h_77.2.1 x 2 = x_76 := by rw [eh_77]; exact hx_pi_at _ _ _ _
                  obtain ⟨x_79, ex_79⟩ : ∃ y : Int32, y = iv7_4 + Int32.ofInt 1 := ⟨_, rfl⟩
                  have rg_80 := i32_r iv7_4
                  have zx_79 : x_79.toInt = iv7_4.toInt + (1) := by rw [ex_79]; exact i32_add rfl (by decide) (by omega) (by omega)
                  refine lv_iinc (v := x_79) (lv' := [(4, .int x_79), (3, .int r_70), (2, .int r_62), (0, .ref x), (1, .int (0 : Int32))]) hx hb dX6_readEither_96 hl (k := 2) rfl ex_79.symm (by decide) rfl (fun ls hl => ?_)
                  refine lv_goto (tgt := 7) hx hb dX6_readEither_99 (by decide) ?_
                  exact ih7 r_62 r_70 x_79 _ _ L_68 h_77 (by omega) (by omega) (by omega) (by omega) (by omega) (by omega)  ls (by omega) hW hT hM   (lv_sub hl [0, 1, 2, 3, 4] rfl)
                · skip
                  refine lv_iconst (v := 1) hx hb dX6_readEither_84 (by decide) ?_
                  exact hx_retz hx hb hr rfl hlk hW ⟨(by decide), hT, hM⟩ dX6_readEither_85
              · skip
                refine lv_aload_n hx hb dX6_readEither_64 rfl (lv_at hl 3 rfl) ?_
                refine hk_getr hx hb hts hC_6 hown hW (gx.S hM) tt_6 6 (by decide) rfl kw_131 ⟨rfl, rfl, rfl⟩ ((hM.o gx trivial rfl).2.trans f_x_6) dX6_readEither_65 ?_
                refine lv_bipush (v := -2) hx hb dX6_readEither_68 (by decide) ?_
                have zc_m2 : (-2 : Int32).toInt = -2 := by decide
                refine hx_gov (hx_runV (As := [.int (-2 : Int32)]) (rest := []) ⟨hx, hb, hml, hown, hts⟩ hW (gqi.S hM) tt_0 (T := TX0) (N := 5) rfl (t_X0_addProof l dC dI dA L_60 h_61 H.size qi (-2 : Int32) hT (gqi.S hM)) (cwV 1 hts (hx_gV kw_583 kw_580 kw_581 kw_582 kw_96) rfl rfl rfl (by decide +kernel) ⟨Nat.le_of_ble_eq_true rfl, Nat.le_of_ble_eq_true rfl⟩) rfl hl.1 rfl (Nat.le_of_ble_eq_true rfl) dX6_readEither_70 ⟨Nat.le_of_ble_eq_true rfl, Nat.le_of_ble_eq_true rfl⟩) hW (fun L_81 h_82 H locs p_84 hW => ?_)
                obtain ⟨hT, hs⟩ := p_84
                replace hT : hx_T T_tb L_81 h_82 := hT
                replace hs : hx_S T_tb [(0, 4), (12, 0)] L_60 h_61 L_81 h_82 := hs
                replace fx_1 := (hs.o (gx.S hM) trivial rfl).1.trans fx_1
                replace fw_65 := (hs.o (gx.S hM) trivial rfl).1.trans fw_65
                replace hM := hM.tr (hs.mono (by decide))
                refine lv_aload_n hx hb dX6_readEither_73 rfl (lv_at hl 3 rfl) ?_
                refine va_ldcS (tx := P_st.getD 3 "") hx hb hown (zVR 3 (by decide)) dX6_readEither_74 ?_
                refine hx_goi (hx_runVX (As := [.ref (b0.2.2.2.1 3)]) (rest := []) ⟨hx, hb, hml, hown, hts⟩ hW (gx.S hM) tt_6 (T := TX6) (N := 7) rfl (t_X6_isNextWord l dC dI dA L_81 h_82 H.size b0 x 3 hT (gx.S hM) (by decide) qt (gqt.S hM) ((hM.o gx trivial rfl).2.trans f_x_0)) hZ (cwV 1 hts (hx_gV kw_565 kw_562 kw_564 kw_14 kw_95) rfl rfl rfl (by decide +kernel) ⟨Nat.le_of_ble_eq_true rfl, Nat.le_of_ble_eq_true rfl⟩) rfl hl.1 rfl (Nat.le_of_ble_eq_true rfl) dX6_readEither_76 ⟨Nat.le_of_ble_eq_true rfl, Nat.le_of_ble_eq_true rfl⟩) hW (fun r_88 L_86 h_87 H locs p_89 hW => ?_)
                obtain ⟨⟨w_91, fw_91, hr_90⟩, hT, hs⟩ := p_89
                replace hT : hx_T T_tb L_86 h_87 := hT
                replace hs : hx_S T_tb [(6, 2)] L_81 h_82 L_86 h_87 := hs
                replace fx_1 := (hs.o (gx.S hM) trivial rfl).1.trans fx_1
                replace hM := hM.tr (hs.mono (by decide))
                have fw_91 : h_87.2.1 x 2 = w_91 := fw_91
                have bw_91 := hT.gi (gx.S hM) tt_6 (k := 2) rfl
                rw [fw_91] at bw_91
                have bw_91 : 0 ≤ w_91.toInt ∧ w_91.toInt ≤ 402 := bw_91
                refine lv_istore_n (lv' := [(3, .int r_88), (2, .int r_62), (4, .int iv7_4), (0, .ref x), (1, .int (0 : Int32))]) hx hb dX6_readEither_79 rfl hl (by decide) rfl (fun ls hl => ?_)
                refine lv_iload_n hx hb dX6_readEither_80 rfl (lv_at hl 0 rfl) ?_
                refine hb_if_ne (zx := r_88.toInt) (tgt := 86) hx hb rfl dX6_readEither_81 (by decide) (fun c_92 => ?_) (fun c_92 => ?_)
                · skip
                  refine lv_aload_n hx hb dX6_readEither_86 rfl (lv_at hl 3 rfl) ?_
                  refine lv_dup hx hb dX6_readEither_87 rfl ?_
                  refine hk_geti hx hb hts hC_6 hown hW (gx.S hM) tt_6 2 (by decide) rfl kw_127 ⟨rfl, rfl, rfl⟩ fw_91 dX6_readEither_88 ?_
                  refine lv_iconst (v := 2) hx hb dX6_readEither_91 (by decide) ?_
                  refine lv_iadd hx hb dX6_readEither_92 ?_
                  have rg_93 := i32_r w_91
                  refine lv_topi (fun x_94 ex_94 => ?_)
                  have zx_94 : x_94.toInt = w_91.toInt + 2 := by rw [ex_94]; exact i32_add rfl (by decide) (by omega) (by omega)
                  refine hx_puti hx hb hts hC_6 hown hW hT (hx_S.rf (M := [(6, 2)])) (gx.S hM) tt_6 2 (by decide) rfl kw_127 ⟨rfl, rfl, rfl⟩ rfl (x := x_94) ⟨by omega, by omega⟩ rfl rfl rfl (List.mem_singleton.mpr rfl) dX6_readEither_93 (fun H locs h_95 eh_95 hW hT hs => ?_)
                  replace fx_1 := (hs.o (gx.S hM) trivial rfl).1.trans fx_1
                  replace hM := hM.tr (hs.mono (by decide))
                  have f_96 : h_95.2.1 x 2 = x_94 := by rw [eh_95]; exact hx_pi_at _ _ _ _
                  obtain ⟨x_97, ex_97⟩ : ∃ y : Int32, y = iv7_4 + Int32.ofInt 1 := ⟨_, rfl⟩
                  have rg_98 := i32_r iv7_4
                  have zx_97 : x_97.toInt = iv7_4.toInt + (1) := by rw [ex_97]; exact i32_add rfl (by decide) (by omega) (by omega)
                  refine lv_iinc (v := x_97) (lv' := [(4, .int x_97), (3, .int r_88), (2, .int r_62), (0, .ref x), (1, .int (0 : Int32))]) hx hb dX6_readEither_96 hl (k := 2) rfl ex_97.symm (by decide) rfl (fun ls hl => ?_)
                  refine lv_goto (tgt := 7) hx hb dX6_readEither_99 (by decide) ?_
                  exact ih7 r_62 r_88 x_97 _ _ L_86 h_95 (by omega) (by omega) (by omega) (by omega) (by omega) (by omega)  ls (by omega) hW hT hM   (lv_sub hl [0, 1, 2, 3, 4] rfl)
                · skip
                  refine lv_iconst (v := 1) hx hb dX6_readEither_84 (by decide) ?_
                  exact hx_retz hx hb hr rfl hlk hW ⟨(by decide), hT, hM⟩ dX6_readEither_85
            · skip
              refine lv_aload_n hx hb dX6_readEither_47 rfl (lv_at hl 3 rfl) ?_
              refine lv_dup hx hb dX6_readEither_48 rfl ?_
              refine hk_geti hx hb hts hC_6 hown hW (gx.S hM) tt_6 2 (by decide) rfl kw_127 ⟨rfl, rfl, rfl⟩ fw_65 dX6_readEither_49 ?_
              refine lv_iconst (v := 3) hx hb dX6_readEither_52 (by decide) ?_
              refine lv_iadd hx hb dX6_readEither_53 ?_
              have rg_99 := i32_r w_65
              refine lv_topi (fun x_100 ex_100 => ?_)
              have zx_100 : x_100.toInt = w_65.toInt + 3 := by rw [ex_100]; exact i32_add rfl (by decide) (by omega) (by omega)
              refine hx_puti hx hb hts hC_6 hown hW hT (hx_S.rf (M := [(6, 2)])) (gx.S hM) tt_6 2 (by decide) rfl kw_127 ⟨rfl, rfl, rfl⟩ rfl (x := x_100) ⟨by omega, by omega⟩ rfl rfl rfl (List.mem_singleton.mpr rfl) dX6_readEither_54 (fun H locs h_101 eh_101 hW hT hs => ?_)
              replace fx_1 := (hs.o (gx.S hM) trivial rfl).1.trans fx_1
              replace hM := hM.tr (hs.mono (by decide))
              have f_102 : h_101.2.1 x 2 = x_100 := by rw [eh_101]; exact hx_pi_at _ _ _ _
              refine lv_goto (tgt := 96) hx hb dX6_readEither_57 (by decide) ?_
              obtain ⟨x_103, ex_103⟩ : ∃ y : Int32, y = iv7_4 + Int32.ofInt 1 := ⟨_, rfl⟩
              have rg_104 := i32_r iv7_4
              have zx_103 : x_103.toInt = iv7_4.toInt + (1) := by rw [ex_103]; exact i32_add rfl (by decide) (by omega) (by omega)
              refine lv_iinc (v := x_103) (lv' := [(4, .int x_103), (2, .int r_62), (3, .int iv7_3), (0, .ref x), (1, .int (0 : Int32))]) hx hb dX6_readEither_96 hl (k := 1) rfl ex_103.symm (by decide) rfl (fun ls hl => ?_)
              refine lv_goto (tgt := 7) hx hb dX6_readEither_99 (by decide) ?_
              exact ih7 r_62 iv7_3 x_103 _ _ L_60 h_101 (by omega) (by omega) (by omega) (by omega) (by omega) (by omega)  ls (by omega) hW hT hM   (lv_sub hl [0, 2, 1, 3, 4] rfl)
  have zk_0 : (0 : Int32).toInt = 0 := by decide
  have zk_0 : (0 : Int32).toInt = 0 := by decide
  have zk_0 : (0 : Int32).toInt = 0 := by decide
  exact loop7 402 (0 : Int32) (0 : Int32) (0 : Int32) _ _ L h (by decide) (by decide) (by decide) (by decide) (by decide) (by decide)  ls (by omega) hW hT hM   hl
