def wLX6_readTerm_0 : List Nat := [42, 182, 0, 35, 42, 180, 0, 19, 60, 42, 18, 116, 182, 0, 51, 61, 28, 156, 0, 10, 42, 27, 3, 182, 0, 45, 172, 42, 180, 0, 28, 16, 20, 161, 0, 10, 42, 27, 7, 182, 0, 45, 172, 42, 89, 180, 0, 28, 4, 96, 181, 0, 28, 42, 182, 0, 118, 62, 29, 154, 0, 13, 42, 42]
def wLX6_readTerm_1 : List Nat := [180, 0, 19, 3, 182, 0, 45, 172, 42, 182, 0, 35, 42, 180, 0, 19, 60, 42, 42, 180, 0, 19, 182, 0, 75, 154, 0, 7, 4, 167, 0, 4, 3, 54, 4, 21, 4, 153, 0, 12, 42, 18, 116, 182, 0, 51, 167, 0, 7, 42, 182, 0, 78, 54, 5, 21, 5, 156, 0, 19, 42, 27, 21, 4]
def wLX6_readTerm_2 : List Nat := [153, 0, 7, 3, 167, 0, 4, 4, 182, 0, 45, 172, 42, 180, 0, 31, 28, 29, 21, 4, 21, 5, 184, 0, 121, 182, 0, 95, 4, 172]
theorem wX6_readTerm_0 : (cX6_readTerm.data.toList.map UInt8.toNat).drop 0 = wLX6_readTerm_0 ++ (wLX6_readTerm_1 ++ (wLX6_readTerm_2 ++ ([]))) := by decide +kernel
theorem wX6_readTerm_1 : (cX6_readTerm.data.toList.map UInt8.toNat).drop 64 = wLX6_readTerm_1 ++ (wLX6_readTerm_2 ++ ([])) := hz_wn wX6_readTerm_0 rfl
theorem wX6_readTerm_2 : (cX6_readTerm.data.toList.map UInt8.toNat).drop 128 = wLX6_readTerm_2 ++ ([]) := hz_wn wX6_readTerm_1 rfl
theorem dX6_readTerm_0 : decode cX6_readTerm 0 = .ok (.aload_n 0, 1) := dq_42 (hz_wg wX6_readTerm_0 (j := 0) (n := 42) rfl)
theorem dX6_readTerm_1 : decode cX6_readTerm 1 = .ok (.invokevirtual 35, 3) := dq_182 (hz_wg wX6_readTerm_0 (j := 1) (n := 182) rfl) (hz_wg wX6_readTerm_0 (j := 2) (n := 0) rfl) (hz_wg wX6_readTerm_0 (j := 3) (n := 35) rfl) rfl
theorem dX6_readTerm_4 : decode cX6_readTerm 4 = .ok (.aload_n 0, 1) := dq_42 (hz_wg wX6_readTerm_0 (j := 4) (n := 42) rfl)
theorem dX6_readTerm_5 : decode cX6_readTerm 5 = .ok (.getfield 19, 3) := dq_180 (hz_wg wX6_readTerm_0 (j := 5) (n := 180) rfl) (hz_wg wX6_readTerm_0 (j := 6) (n := 0) rfl) (hz_wg wX6_readTerm_0 (j := 7) (n := 19) rfl) rfl
theorem dX6_readTerm_8 : decode cX6_readTerm 8 = .ok (.istore_n 1, 1) := dq_60 (hz_wg wX6_readTerm_0 (j := 8) (n := 60) rfl)
theorem dX6_readTerm_9 : decode cX6_readTerm 9 = .ok (.aload_n 0, 1) := dq_42 (hz_wg wX6_readTerm_0 (j := 9) (n := 42) rfl)
theorem dX6_readTerm_10 : decode cX6_readTerm 10 = .ok (.ldc 116, 2) := dq_18 (hz_wg wX6_readTerm_0 (j := 10) (n := 18) rfl) (hz_wg wX6_readTerm_0 (j := 11) (n := 116) rfl)
theorem dX6_readTerm_12 : decode cX6_readTerm 12 = .ok (.invokevirtual 51, 3) := dq_182 (hz_wg wX6_readTerm_0 (j := 12) (n := 182) rfl) (hz_wg wX6_readTerm_0 (j := 13) (n := 0) rfl) (hz_wg wX6_readTerm_0 (j := 14) (n := 51) rfl) rfl
theorem dX6_readTerm_15 : decode cX6_readTerm 15 = .ok (.istore_n 2, 1) := dq_61 (hz_wg wX6_readTerm_0 (j := 15) (n := 61) rfl)
theorem dX6_readTerm_16 : decode cX6_readTerm 16 = .ok (.iload_n 2, 1) := dq_28 (hz_wg wX6_readTerm_0 (j := 16) (n := 28) rfl)
theorem dX6_readTerm_17 : decode cX6_readTerm 17 = .ok (.ifCond .ge 10, 3) := dq_156 (hz_wg wX6_readTerm_0 (j := 17) (n := 156) rfl) (hz_wg wX6_readTerm_0 (j := 18) (n := 0) rfl) (hz_wg wX6_readTerm_0 (j := 19) (n := 10) rfl) (by decide)
theorem dX6_readTerm_20 : decode cX6_readTerm 20 = .ok (.aload_n 0, 1) := dq_42 (hz_wg wX6_readTerm_0 (j := 20) (n := 42) rfl)
theorem dX6_readTerm_21 : decode cX6_readTerm 21 = .ok (.iload_n 1, 1) := dq_27 (hz_wg wX6_readTerm_0 (j := 21) (n := 27) rfl)
theorem dX6_readTerm_22 : decode cX6_readTerm 22 = .ok (.iconst 0, 1) := dq_3 (hz_wg wX6_readTerm_0 (j := 22) (n := 3) rfl)
theorem dX6_readTerm_23 : decode cX6_readTerm 23 = .ok (.invokevirtual 45, 3) := dq_182 (hz_wg wX6_readTerm_0 (j := 23) (n := 182) rfl) (hz_wg wX6_readTerm_0 (j := 24) (n := 0) rfl) (hz_wg wX6_readTerm_0 (j := 25) (n := 45) rfl) rfl
theorem dX6_readTerm_26 : decode cX6_readTerm 26 = .ok (.ireturn, 1) := dq_172 (hz_wg wX6_readTerm_0 (j := 26) (n := 172) rfl)
theorem dX6_readTerm_27 : decode cX6_readTerm 27 = .ok (.aload_n 0, 1) := dq_42 (hz_wg wX6_readTerm_0 (j := 27) (n := 42) rfl)
theorem dX6_readTerm_28 : decode cX6_readTerm 28 = .ok (.getfield 28, 3) := dq_180 (hz_wg wX6_readTerm_0 (j := 28) (n := 180) rfl) (hz_wg wX6_readTerm_0 (j := 29) (n := 0) rfl) (hz_wg wX6_readTerm_0 (j := 30) (n := 28) rfl) rfl
theorem dX6_readTerm_31 : decode cX6_readTerm 31 = .ok (.bipush 20, 2) := dq_16 (hz_wg wX6_readTerm_0 (j := 31) (n := 16) rfl) (hz_wg wX6_readTerm_0 (j := 32) (n := 20) rfl) (by decide)
theorem dX6_readTerm_33 : decode cX6_readTerm 33 = .ok (.if_icmp .lt 10, 3) := dq_161 (hz_wg wX6_readTerm_0 (j := 33) (n := 161) rfl) (hz_wg wX6_readTerm_0 (j := 34) (n := 0) rfl) (hz_wg wX6_readTerm_0 (j := 35) (n := 10) rfl) (by decide)
theorem dX6_readTerm_36 : decode cX6_readTerm 36 = .ok (.aload_n 0, 1) := dq_42 (hz_wg wX6_readTerm_0 (j := 36) (n := 42) rfl)
theorem dX6_readTerm_37 : decode cX6_readTerm 37 = .ok (.iload_n 1, 1) := dq_27 (hz_wg wX6_readTerm_0 (j := 37) (n := 27) rfl)
theorem dX6_readTerm_38 : decode cX6_readTerm 38 = .ok (.iconst 4, 1) := dq_7 (hz_wg wX6_readTerm_0 (j := 38) (n := 7) rfl)
theorem dX6_readTerm_39 : decode cX6_readTerm 39 = .ok (.invokevirtual 45, 3) := dq_182 (hz_wg wX6_readTerm_0 (j := 39) (n := 182) rfl) (hz_wg wX6_readTerm_0 (j := 40) (n := 0) rfl) (hz_wg wX6_readTerm_0 (j := 41) (n := 45) rfl) rfl
theorem dX6_readTerm_42 : decode cX6_readTerm 42 = .ok (.ireturn, 1) := dq_172 (hz_wg wX6_readTerm_0 (j := 42) (n := 172) rfl)
theorem dX6_readTerm_43 : decode cX6_readTerm 43 = .ok (.aload_n 0, 1) := dq_42 (hz_wg wX6_readTerm_0 (j := 43) (n := 42) rfl)
theorem dX6_readTerm_44 : decode cX6_readTerm 44 = .ok (.dup, 1) := dq_89 (hz_wg wX6_readTerm_0 (j := 44) (n := 89) rfl)
theorem dX6_readTerm_45 : decode cX6_readTerm 45 = .ok (.getfield 28, 3) := dq_180 (hz_wg wX6_readTerm_0 (j := 45) (n := 180) rfl) (hz_wg wX6_readTerm_0 (j := 46) (n := 0) rfl) (hz_wg wX6_readTerm_0 (j := 47) (n := 28) rfl) rfl
theorem dX6_readTerm_48 : decode cX6_readTerm 48 = .ok (.iconst 1, 1) := dq_4 (hz_wg wX6_readTerm_0 (j := 48) (n := 4) rfl)
theorem dX6_readTerm_49 : decode cX6_readTerm 49 = .ok (.iadd, 1) := dq_96 (hz_wg wX6_readTerm_0 (j := 49) (n := 96) rfl)
theorem dX6_readTerm_50 : decode cX6_readTerm 50 = .ok (.putfield 28, 3) := dq_181 (hz_wg wX6_readTerm_0 (j := 50) (n := 181) rfl) (hz_wg wX6_readTerm_0 (j := 51) (n := 0) rfl) (hz_wg wX6_readTerm_0 (j := 52) (n := 28) rfl) rfl
theorem dX6_readTerm_53 : decode cX6_readTerm 53 = .ok (.aload_n 0, 1) := dq_42 (hz_wg wX6_readTerm_0 (j := 53) (n := 42) rfl)
theorem dX6_readTerm_54 : decode cX6_readTerm 54 = .ok (.invokevirtual 118, 3) := dq_182 (hz_wg wX6_readTerm_0 (j := 54) (n := 182) rfl) (hz_wg wX6_readTerm_0 (j := 55) (n := 0) rfl) (hz_wg wX6_readTerm_0 (j := 56) (n := 118) rfl) rfl
theorem dX6_readTerm_57 : decode cX6_readTerm 57 = .ok (.istore_n 3, 1) := dq_62 (hz_wg wX6_readTerm_0 (j := 57) (n := 62) rfl)
theorem dX6_readTerm_58 : decode cX6_readTerm 58 = .ok (.iload_n 3, 1) := dq_29 (hz_wg wX6_readTerm_0 (j := 58) (n := 29) rfl)
theorem dX6_readTerm_59 : decode cX6_readTerm 59 = .ok (.ifCond .ne 13, 3) := dq_154 (hz_wg wX6_readTerm_0 (j := 59) (n := 154) rfl) (hz_wg wX6_readTerm_0 (j := 60) (n := 0) rfl) (hz_wg wX6_readTerm_0 (j := 61) (n := 13) rfl) (by decide)
theorem dX6_readTerm_62 : decode cX6_readTerm 62 = .ok (.aload_n 0, 1) := dq_42 (hz_wg wX6_readTerm_0 (j := 62) (n := 42) rfl)
theorem dX6_readTerm_63 : decode cX6_readTerm 63 = .ok (.aload_n 0, 1) := dq_42 (hz_wg wX6_readTerm_0 (j := 63) (n := 42) rfl)
theorem dX6_readTerm_64 : decode cX6_readTerm 64 = .ok (.getfield 19, 3) := dq_180 (hz_wg wX6_readTerm_1 (j := 0) (n := 180) rfl) (hz_wg wX6_readTerm_1 (j := 1) (n := 0) rfl) (hz_wg wX6_readTerm_1 (j := 2) (n := 19) rfl) rfl
theorem dX6_readTerm_67 : decode cX6_readTerm 67 = .ok (.iconst 0, 1) := dq_3 (hz_wg wX6_readTerm_1 (j := 3) (n := 3) rfl)
theorem dX6_readTerm_68 : decode cX6_readTerm 68 = .ok (.invokevirtual 45, 3) := dq_182 (hz_wg wX6_readTerm_1 (j := 4) (n := 182) rfl) (hz_wg wX6_readTerm_1 (j := 5) (n := 0) rfl) (hz_wg wX6_readTerm_1 (j := 6) (n := 45) rfl) rfl
theorem dX6_readTerm_71 : decode cX6_readTerm 71 = .ok (.ireturn, 1) := dq_172 (hz_wg wX6_readTerm_1 (j := 7) (n := 172) rfl)
theorem dX6_readTerm_72 : decode cX6_readTerm 72 = .ok (.aload_n 0, 1) := dq_42 (hz_wg wX6_readTerm_1 (j := 8) (n := 42) rfl)
theorem dX6_readTerm_73 : decode cX6_readTerm 73 = .ok (.invokevirtual 35, 3) := dq_182 (hz_wg wX6_readTerm_1 (j := 9) (n := 182) rfl) (hz_wg wX6_readTerm_1 (j := 10) (n := 0) rfl) (hz_wg wX6_readTerm_1 (j := 11) (n := 35) rfl) rfl
theorem dX6_readTerm_76 : decode cX6_readTerm 76 = .ok (.aload_n 0, 1) := dq_42 (hz_wg wX6_readTerm_1 (j := 12) (n := 42) rfl)
theorem dX6_readTerm_77 : decode cX6_readTerm 77 = .ok (.getfield 19, 3) := dq_180 (hz_wg wX6_readTerm_1 (j := 13) (n := 180) rfl) (hz_wg wX6_readTerm_1 (j := 14) (n := 0) rfl) (hz_wg wX6_readTerm_1 (j := 15) (n := 19) rfl) rfl
theorem dX6_readTerm_80 : decode cX6_readTerm 80 = .ok (.istore_n 1, 1) := dq_60 (hz_wg wX6_readTerm_1 (j := 16) (n := 60) rfl)
theorem dX6_readTerm_81 : decode cX6_readTerm 81 = .ok (.aload_n 0, 1) := dq_42 (hz_wg wX6_readTerm_1 (j := 17) (n := 42) rfl)
theorem dX6_readTerm_82 : decode cX6_readTerm 82 = .ok (.aload_n 0, 1) := dq_42 (hz_wg wX6_readTerm_1 (j := 18) (n := 42) rfl)
theorem dX6_readTerm_83 : decode cX6_readTerm 83 = .ok (.getfield 19, 3) := dq_180 (hz_wg wX6_readTerm_1 (j := 19) (n := 180) rfl) (hz_wg wX6_readTerm_1 (j := 20) (n := 0) rfl) (hz_wg wX6_readTerm_1 (j := 21) (n := 19) rfl) rfl
theorem dX6_readTerm_86 : decode cX6_readTerm 86 = .ok (.invokevirtual 75, 3) := dq_182 (hz_wg wX6_readTerm_1 (j := 22) (n := 182) rfl) (hz_wg wX6_readTerm_1 (j := 23) (n := 0) rfl) (hz_wg wX6_readTerm_1 (j := 24) (n := 75) rfl) rfl
theorem dX6_readTerm_89 : decode cX6_readTerm 89 = .ok (.ifCond .ne 7, 3) := dq_154 (hz_wg wX6_readTerm_1 (j := 25) (n := 154) rfl) (hz_wg wX6_readTerm_1 (j := 26) (n := 0) rfl) (hz_wg wX6_readTerm_1 (j := 27) (n := 7) rfl) (by decide)
theorem dX6_readTerm_92 : decode cX6_readTerm 92 = .ok (.iconst 1, 1) := dq_4 (hz_wg wX6_readTerm_1 (j := 28) (n := 4) rfl)
theorem dX6_readTerm_93 : decode cX6_readTerm 93 = .ok (.goto 4, 3) := dq_167 (hz_wg wX6_readTerm_1 (j := 29) (n := 167) rfl) (hz_wg wX6_readTerm_1 (j := 30) (n := 0) rfl) (hz_wg wX6_readTerm_1 (j := 31) (n := 4) rfl) (by decide)
theorem dX6_readTerm_96 : decode cX6_readTerm 96 = .ok (.iconst 0, 1) := dq_3 (hz_wg wX6_readTerm_1 (j := 32) (n := 3) rfl)
theorem dX6_readTerm_97 : decode cX6_readTerm 97 = .ok (.istore 4, 2) := dq_54 (hz_wg wX6_readTerm_1 (j := 33) (n := 54) rfl) (hz_wg wX6_readTerm_1 (j := 34) (n := 4) rfl)
theorem dX6_readTerm_99 : decode cX6_readTerm 99 = .ok (.iload 4, 2) := dq_21 (hz_wg wX6_readTerm_1 (j := 35) (n := 21) rfl) (hz_wg wX6_readTerm_1 (j := 36) (n := 4) rfl)
theorem dX6_readTerm_101 : decode cX6_readTerm 101 = .ok (.ifCond .eq 12, 3) := dq_153 (hz_wg wX6_readTerm_1 (j := 37) (n := 153) rfl) (hz_wg wX6_readTerm_1 (j := 38) (n := 0) rfl) (hz_wg wX6_readTerm_1 (j := 39) (n := 12) rfl) (by decide)
theorem dX6_readTerm_104 : decode cX6_readTerm 104 = .ok (.aload_n 0, 1) := dq_42 (hz_wg wX6_readTerm_1 (j := 40) (n := 42) rfl)
theorem dX6_readTerm_105 : decode cX6_readTerm 105 = .ok (.ldc 116, 2) := dq_18 (hz_wg wX6_readTerm_1 (j := 41) (n := 18) rfl) (hz_wg wX6_readTerm_1 (j := 42) (n := 116) rfl)
theorem dX6_readTerm_107 : decode cX6_readTerm 107 = .ok (.invokevirtual 51, 3) := dq_182 (hz_wg wX6_readTerm_1 (j := 43) (n := 182) rfl) (hz_wg wX6_readTerm_1 (j := 44) (n := 0) rfl) (hz_wg wX6_readTerm_1 (j := 45) (n := 51) rfl) rfl
theorem dX6_readTerm_110 : decode cX6_readTerm 110 = .ok (.goto 7, 3) := dq_167 (hz_wg wX6_readTerm_1 (j := 46) (n := 167) rfl) (hz_wg wX6_readTerm_1 (j := 47) (n := 0) rfl) (hz_wg wX6_readTerm_1 (j := 48) (n := 7) rfl) (by decide)
theorem dX6_readTerm_113 : decode cX6_readTerm 113 = .ok (.aload_n 0, 1) := dq_42 (hz_wg wX6_readTerm_1 (j := 49) (n := 42) rfl)
theorem dX6_readTerm_114 : decode cX6_readTerm 114 = .ok (.invokevirtual 78, 3) := dq_182 (hz_wg wX6_readTerm_1 (j := 50) (n := 182) rfl) (hz_wg wX6_readTerm_1 (j := 51) (n := 0) rfl) (hz_wg wX6_readTerm_1 (j := 52) (n := 78) rfl) rfl
theorem dX6_readTerm_117 : decode cX6_readTerm 117 = .ok (.istore 5, 2) := dq_54 (hz_wg wX6_readTerm_1 (j := 53) (n := 54) rfl) (hz_wg wX6_readTerm_1 (j := 54) (n := 5) rfl)
theorem dX6_readTerm_119 : decode cX6_readTerm 119 = .ok (.iload 5, 2) := dq_21 (hz_wg wX6_readTerm_1 (j := 55) (n := 21) rfl) (hz_wg wX6_readTerm_1 (j := 56) (n := 5) rfl)
theorem dX6_readTerm_121 : decode cX6_readTerm 121 = .ok (.ifCond .ge 19, 3) := dq_156 (hz_wg wX6_readTerm_1 (j := 57) (n := 156) rfl) (hz_wg wX6_readTerm_1 (j := 58) (n := 0) rfl) (hz_wg wX6_readTerm_1 (j := 59) (n := 19) rfl) (by decide)
theorem dX6_readTerm_124 : decode cX6_readTerm 124 = .ok (.aload_n 0, 1) := dq_42 (hz_wg wX6_readTerm_1 (j := 60) (n := 42) rfl)
theorem dX6_readTerm_125 : decode cX6_readTerm 125 = .ok (.iload_n 1, 1) := dq_27 (hz_wg wX6_readTerm_1 (j := 61) (n := 27) rfl)
theorem dX6_readTerm_126 : decode cX6_readTerm 126 = .ok (.iload 4, 2) := dq_21 (hz_wg wX6_readTerm_1 (j := 62) (n := 21) rfl) (hz_wg wX6_readTerm_1 (j := 63) (n := 4) rfl)
theorem dX6_readTerm_128 : decode cX6_readTerm 128 = .ok (.ifCond .eq 7, 3) := dq_153 (hz_wg wX6_readTerm_2 (j := 0) (n := 153) rfl) (hz_wg wX6_readTerm_2 (j := 1) (n := 0) rfl) (hz_wg wX6_readTerm_2 (j := 2) (n := 7) rfl) (by decide)
theorem dX6_readTerm_131 : decode cX6_readTerm 131 = .ok (.iconst 0, 1) := dq_3 (hz_wg wX6_readTerm_2 (j := 3) (n := 3) rfl)
theorem dX6_readTerm_132 : decode cX6_readTerm 132 = .ok (.goto 4, 3) := dq_167 (hz_wg wX6_readTerm_2 (j := 4) (n := 167) rfl) (hz_wg wX6_readTerm_2 (j := 5) (n := 0) rfl) (hz_wg wX6_readTerm_2 (j := 6) (n := 4) rfl) (by decide)
theorem dX6_readTerm_135 : decode cX6_readTerm 135 = .ok (.iconst 1, 1) := dq_4 (hz_wg wX6_readTerm_2 (j := 7) (n := 4) rfl)
theorem dX6_readTerm_136 : decode cX6_readTerm 136 = .ok (.invokevirtual 45, 3) := dq_182 (hz_wg wX6_readTerm_2 (j := 8) (n := 182) rfl) (hz_wg wX6_readTerm_2 (j := 9) (n := 0) rfl) (hz_wg wX6_readTerm_2 (j := 10) (n := 45) rfl) rfl
theorem dX6_readTerm_139 : decode cX6_readTerm 139 = .ok (.ireturn, 1) := dq_172 (hz_wg wX6_readTerm_2 (j := 11) (n := 172) rfl)
theorem dX6_readTerm_140 : decode cX6_readTerm 140 = .ok (.aload_n 0, 1) := dq_42 (hz_wg wX6_readTerm_2 (j := 12) (n := 42) rfl)
theorem dX6_readTerm_141 : decode cX6_readTerm 141 = .ok (.getfield 31, 3) := dq_180 (hz_wg wX6_readTerm_2 (j := 13) (n := 180) rfl) (hz_wg wX6_readTerm_2 (j := 14) (n := 0) rfl) (hz_wg wX6_readTerm_2 (j := 15) (n := 31) rfl) rfl
theorem dX6_readTerm_144 : decode cX6_readTerm 144 = .ok (.iload_n 2, 1) := dq_28 (hz_wg wX6_readTerm_2 (j := 16) (n := 28) rfl)
theorem dX6_readTerm_145 : decode cX6_readTerm 145 = .ok (.iload_n 3, 1) := dq_29 (hz_wg wX6_readTerm_2 (j := 17) (n := 29) rfl)
theorem dX6_readTerm_146 : decode cX6_readTerm 146 = .ok (.iload 4, 2) := dq_21 (hz_wg wX6_readTerm_2 (j := 18) (n := 21) rfl) (hz_wg wX6_readTerm_2 (j := 19) (n := 4) rfl)
theorem dX6_readTerm_148 : decode cX6_readTerm 148 = .ok (.iload 5, 2) := dq_21 (hz_wg wX6_readTerm_2 (j := 20) (n := 21) rfl) (hz_wg wX6_readTerm_2 (j := 21) (n := 5) rfl)
theorem dX6_readTerm_150 : decode cX6_readTerm 150 = .ok (.invokestatic 121, 3) := dq_184 (hz_wg wX6_readTerm_2 (j := 22) (n := 184) rfl) (hz_wg wX6_readTerm_2 (j := 23) (n := 0) rfl) (hz_wg wX6_readTerm_2 (j := 24) (n := 121) rfl) rfl
theorem dX6_readTerm_153 : decode cX6_readTerm 153 = .ok (.invokevirtual 95, 3) := dq_182 (hz_wg wX6_readTerm_2 (j := 25) (n := 182) rfl) (hz_wg wX6_readTerm_2 (j := 26) (n := 0) rfl) (hz_wg wX6_readTerm_2 (j := 27) (n := 95) rfl) rfl
theorem dX6_readTerm_156 : decode cX6_readTerm 156 = .ok (.iconst 1, 1) := dq_4 (hz_wg wX6_readTerm_2 (j := 28) (n := 4) rfl)
theorem dX6_readTerm_157 : decode cX6_readTerm 157 = .ok (.ireturn, 1) := dq_172 (hz_wg wX6_readTerm_2 (j := 29) (n := 172) rfl)
def wLX6_readOne_0 : List Nat := [42, 18, 107, 182, 0, 101, 61, 28, 154, 0, 17, 42, 16, 40, 182, 0, 109, 154, 0, 8, 42, 182, 0, 113, 172, 27, 16, 8, 161, 0, 13, 42, 42, 180, 0, 19, 6, 182, 0, 45, 172, 28, 153, 0, 36, 42, 89, 180, 0, 19, 6, 96, 181, 0, 19, 42, 27, 4, 96, 182, 0, 92, 154, 0]
def wLX6_readOne_1 : List Nat := [5, 3, 172, 42, 180, 0, 31, 16, 253, 182, 0, 95, 4, 172, 42, 89, 180, 0, 19, 4, 96, 181, 0, 19, 42, 27, 4, 96, 182, 0, 66, 154, 0, 5, 3, 172, 42, 182, 0, 35, 42, 16, 41, 182, 0, 109, 154, 0, 13, 42, 42, 180, 0, 19, 3, 182, 0, 45, 172, 42, 89, 180, 0, 19]
def wLX6_readOne_2 : List Nat := [4, 96, 181, 0, 19, 4, 172]
theorem wX6_readOne_0 : (cX6_readOne.data.toList.map UInt8.toNat).drop 0 = wLX6_readOne_0 ++ (wLX6_readOne_1 ++ (wLX6_readOne_2 ++ ([]))) := by decide +kernel
theorem wX6_readOne_1 : (cX6_readOne.data.toList.map UInt8.toNat).drop 64 = wLX6_readOne_1 ++ (wLX6_readOne_2 ++ ([])) := hz_wn wX6_readOne_0 rfl
theorem wX6_readOne_2 : (cX6_readOne.data.toList.map UInt8.toNat).drop 128 = wLX6_readOne_2 ++ ([]) := hz_wn wX6_readOne_1 rfl
theorem dX6_readOne_0 : decode cX6_readOne 0 = .ok (.aload_n 0, 1) := dq_42 (hz_wg wX6_readOne_0 (j := 0) (n := 42) rfl)
theorem dX6_readOne_1 : decode cX6_readOne 1 = .ok (.ldc 107, 2) := dq_18 (hz_wg wX6_readOne_0 (j := 1) (n := 18) rfl) (hz_wg wX6_readOne_0 (j := 2) (n := 107) rfl)
theorem dX6_readOne_3 : decode cX6_readOne 3 = .ok (.invokevirtual 101, 3) := dq_182 (hz_wg wX6_readOne_0 (j := 3) (n := 182) rfl) (hz_wg wX6_readOne_0 (j := 4) (n := 0) rfl) (hz_wg wX6_readOne_0 (j := 5) (n := 101) rfl) rfl
theorem dX6_readOne_6 : decode cX6_readOne 6 = .ok (.istore_n 2, 1) := dq_61 (hz_wg wX6_readOne_0 (j := 6) (n := 61) rfl)
theorem dX6_readOne_7 : decode cX6_readOne 7 = .ok (.iload_n 2, 1) := dq_28 (hz_wg wX6_readOne_0 (j := 7) (n := 28) rfl)
theorem dX6_readOne_8 : decode cX6_readOne 8 = .ok (.ifCond .ne 17, 3) := dq_154 (hz_wg wX6_readOne_0 (j := 8) (n := 154) rfl) (hz_wg wX6_readOne_0 (j := 9) (n := 0) rfl) (hz_wg wX6_readOne_0 (j := 10) (n := 17) rfl) (by decide)
theorem dX6_readOne_11 : decode cX6_readOne 11 = .ok (.aload_n 0, 1) := dq_42 (hz_wg wX6_readOne_0 (j := 11) (n := 42) rfl)
theorem dX6_readOne_12 : decode cX6_readOne 12 = .ok (.bipush 40, 2) := dq_16 (hz_wg wX6_readOne_0 (j := 12) (n := 16) rfl) (hz_wg wX6_readOne_0 (j := 13) (n := 40) rfl) (by decide)
theorem dX6_readOne_14 : decode cX6_readOne 14 = .ok (.invokevirtual 109, 3) := dq_182 (hz_wg wX6_readOne_0 (j := 14) (n := 182) rfl) (hz_wg wX6_readOne_0 (j := 15) (n := 0) rfl) (hz_wg wX6_readOne_0 (j := 16) (n := 109) rfl) rfl
theorem dX6_readOne_17 : decode cX6_readOne 17 = .ok (.ifCond .ne 8, 3) := dq_154 (hz_wg wX6_readOne_0 (j := 17) (n := 154) rfl) (hz_wg wX6_readOne_0 (j := 18) (n := 0) rfl) (hz_wg wX6_readOne_0 (j := 19) (n := 8) rfl) (by decide)
theorem dX6_readOne_20 : decode cX6_readOne 20 = .ok (.aload_n 0, 1) := dq_42 (hz_wg wX6_readOne_0 (j := 20) (n := 42) rfl)
theorem dX6_readOne_21 : decode cX6_readOne 21 = .ok (.invokevirtual 113, 3) := dq_182 (hz_wg wX6_readOne_0 (j := 21) (n := 182) rfl) (hz_wg wX6_readOne_0 (j := 22) (n := 0) rfl) (hz_wg wX6_readOne_0 (j := 23) (n := 113) rfl) rfl
theorem dX6_readOne_24 : decode cX6_readOne 24 = .ok (.ireturn, 1) := dq_172 (hz_wg wX6_readOne_0 (j := 24) (n := 172) rfl)
theorem dX6_readOne_25 : decode cX6_readOne 25 = .ok (.iload_n 1, 1) := dq_27 (hz_wg wX6_readOne_0 (j := 25) (n := 27) rfl)
theorem dX6_readOne_26 : decode cX6_readOne 26 = .ok (.bipush 8, 2) := dq_16 (hz_wg wX6_readOne_0 (j := 26) (n := 16) rfl) (hz_wg wX6_readOne_0 (j := 27) (n := 8) rfl) (by decide)
theorem dX6_readOne_28 : decode cX6_readOne 28 = .ok (.if_icmp .lt 13, 3) := dq_161 (hz_wg wX6_readOne_0 (j := 28) (n := 161) rfl) (hz_wg wX6_readOne_0 (j := 29) (n := 0) rfl) (hz_wg wX6_readOne_0 (j := 30) (n := 13) rfl) (by decide)
theorem dX6_readOne_31 : decode cX6_readOne 31 = .ok (.aload_n 0, 1) := dq_42 (hz_wg wX6_readOne_0 (j := 31) (n := 42) rfl)
theorem dX6_readOne_32 : decode cX6_readOne 32 = .ok (.aload_n 0, 1) := dq_42 (hz_wg wX6_readOne_0 (j := 32) (n := 42) rfl)
theorem dX6_readOne_33 : decode cX6_readOne 33 = .ok (.getfield 19, 3) := dq_180 (hz_wg wX6_readOne_0 (j := 33) (n := 180) rfl) (hz_wg wX6_readOne_0 (j := 34) (n := 0) rfl) (hz_wg wX6_readOne_0 (j := 35) (n := 19) rfl) rfl
theorem dX6_readOne_36 : decode cX6_readOne 36 = .ok (.iconst 3, 1) := dq_6 (hz_wg wX6_readOne_0 (j := 36) (n := 6) rfl)
theorem dX6_readOne_37 : decode cX6_readOne 37 = .ok (.invokevirtual 45, 3) := dq_182 (hz_wg wX6_readOne_0 (j := 37) (n := 182) rfl) (hz_wg wX6_readOne_0 (j := 38) (n := 0) rfl) (hz_wg wX6_readOne_0 (j := 39) (n := 45) rfl) rfl
theorem dX6_readOne_40 : decode cX6_readOne 40 = .ok (.ireturn, 1) := dq_172 (hz_wg wX6_readOne_0 (j := 40) (n := 172) rfl)
def wLX6_readEither_0 : List Nat := [3, 61, 3, 62, 3, 54, 4, 21, 4, 42, 180, 0, 15, 163, 0, 89, 42, 27, 182, 0, 92, 153, 0, 81, 28, 153, 0, 11, 42, 180, 0, 31, 2, 182, 0, 95, 42, 18, 99, 182, 0, 101, 61, 28, 153, 0, 16, 42, 89, 180, 0, 19, 6, 96, 181, 0, 19, 167, 0, 39, 29, 153, 0, 12]
def wLX6_readEither_1 : List Nat := [42, 180, 0, 31, 16, 254, 182, 0, 95, 42, 18, 105, 182, 0, 101, 62, 29, 154, 0, 5, 4, 172, 42, 89, 180, 0, 19, 5, 96, 181, 0, 19, 132, 4, 1, 167, 255, 164, 3, 172]
theorem wX6_readEither_0 : (cX6_readEither.data.toList.map UInt8.toNat).drop 0 = wLX6_readEither_0 ++ (wLX6_readEither_1 ++ ([])) := by decide +kernel
theorem wX6_readEither_1 : (cX6_readEither.data.toList.map UInt8.toNat).drop 64 = wLX6_readEither_1 ++ ([]) := hz_wn wX6_readEither_0 rfl
theorem dX6_readEither_0 : decode cX6_readEither 0 = .ok (.iconst 0, 1) := dq_3 (hz_wg wX6_readEither_0 (j := 0) (n := 3) rfl)
theorem dX6_readEither_1 : decode cX6_readEither 1 = .ok (.istore_n 2, 1) := dq_61 (hz_wg wX6_readEither_0 (j := 1) (n := 61) rfl)
theorem dX6_readEither_2 : decode cX6_readEither 2 = .ok (.iconst 0, 1) := dq_3 (hz_wg wX6_readEither_0 (j := 2) (n := 3) rfl)
theorem dX6_readEither_3 : decode cX6_readEither 3 = .ok (.istore_n 3, 1) := dq_62 (hz_wg wX6_readEither_0 (j := 3) (n := 62) rfl)
theorem dX6_readEither_4 : decode cX6_readEither 4 = .ok (.iconst 0, 1) := dq_3 (hz_wg wX6_readEither_0 (j := 4) (n := 3) rfl)
theorem dX6_readEither_5 : decode cX6_readEither 5 = .ok (.istore 4, 2) := dq_54 (hz_wg wX6_readEither_0 (j := 5) (n := 54) rfl) (hz_wg wX6_readEither_0 (j := 6) (n := 4) rfl)
theorem dX6_readEither_7 : decode cX6_readEither 7 = .ok (.iload 4, 2) := dq_21 (hz_wg wX6_readEither_0 (j := 7) (n := 21) rfl) (hz_wg wX6_readEither_0 (j := 8) (n := 4) rfl)
theorem dX6_readEither_9 : decode cX6_readEither 9 = .ok (.aload_n 0, 1) := dq_42 (hz_wg wX6_readEither_0 (j := 9) (n := 42) rfl)
theorem dX6_readEither_10 : decode cX6_readEither 10 = .ok (.getfield 15, 3) := dq_180 (hz_wg wX6_readEither_0 (j := 10) (n := 180) rfl) (hz_wg wX6_readEither_0 (j := 11) (n := 0) rfl) (hz_wg wX6_readEither_0 (j := 12) (n := 15) rfl) rfl
theorem dX6_readEither_13 : decode cX6_readEither 13 = .ok (.if_icmp .gt 89, 3) := dq_163 (hz_wg wX6_readEither_0 (j := 13) (n := 163) rfl) (hz_wg wX6_readEither_0 (j := 14) (n := 0) rfl) (hz_wg wX6_readEither_0 (j := 15) (n := 89) rfl) (by decide)
theorem dX6_readEither_16 : decode cX6_readEither 16 = .ok (.aload_n 0, 1) := dq_42 (hz_wg wX6_readEither_0 (j := 16) (n := 42) rfl)
theorem dX6_readEither_17 : decode cX6_readEither 17 = .ok (.iload_n 1, 1) := dq_27 (hz_wg wX6_readEither_0 (j := 17) (n := 27) rfl)
theorem dX6_readEither_18 : decode cX6_readEither 18 = .ok (.invokevirtual 92, 3) := dq_182 (hz_wg wX6_readEither_0 (j := 18) (n := 182) rfl) (hz_wg wX6_readEither_0 (j := 19) (n := 0) rfl) (hz_wg wX6_readEither_0 (j := 20) (n := 92) rfl) rfl
theorem dX6_readEither_21 : decode cX6_readEither 21 = .ok (.ifCond .eq 81, 3) := dq_153 (hz_wg wX6_readEither_0 (j := 21) (n := 153) rfl) (hz_wg wX6_readEither_0 (j := 22) (n := 0) rfl) (hz_wg wX6_readEither_0 (j := 23) (n := 81) rfl) (by decide)
theorem dX6_readEither_24 : decode cX6_readEither 24 = .ok (.iload_n 2, 1) := dq_28 (hz_wg wX6_readEither_0 (j := 24) (n := 28) rfl)
theorem dX6_readEither_25 : decode cX6_readEither 25 = .ok (.ifCond .eq 11, 3) := dq_153 (hz_wg wX6_readEither_0 (j := 25) (n := 153) rfl) (hz_wg wX6_readEither_0 (j := 26) (n := 0) rfl) (hz_wg wX6_readEither_0 (j := 27) (n := 11) rfl) (by decide)
theorem dX6_readEither_28 : decode cX6_readEither 28 = .ok (.aload_n 0, 1) := dq_42 (hz_wg wX6_readEither_0 (j := 28) (n := 42) rfl)
theorem dX6_readEither_29 : decode cX6_readEither 29 = .ok (.getfield 31, 3) := dq_180 (hz_wg wX6_readEither_0 (j := 29) (n := 180) rfl) (hz_wg wX6_readEither_0 (j := 30) (n := 0) rfl) (hz_wg wX6_readEither_0 (j := 31) (n := 31) rfl) rfl
theorem dX6_readEither_32 : decode cX6_readEither 32 = .ok (.iconst (-1), 1) := dq_2 (hz_wg wX6_readEither_0 (j := 32) (n := 2) rfl)
theorem dX6_readEither_33 : decode cX6_readEither 33 = .ok (.invokevirtual 95, 3) := dq_182 (hz_wg wX6_readEither_0 (j := 33) (n := 182) rfl) (hz_wg wX6_readEither_0 (j := 34) (n := 0) rfl) (hz_wg wX6_readEither_0 (j := 35) (n := 95) rfl) rfl
theorem dX6_readEither_36 : decode cX6_readEither 36 = .ok (.aload_n 0, 1) := dq_42 (hz_wg wX6_readEither_0 (j := 36) (n := 42) rfl)
theorem dX6_readEither_37 : decode cX6_readEither 37 = .ok (.ldc 99, 2) := dq_18 (hz_wg wX6_readEither_0 (j := 37) (n := 18) rfl) (hz_wg wX6_readEither_0 (j := 38) (n := 99) rfl)
theorem dX6_readEither_39 : decode cX6_readEither 39 = .ok (.invokevirtual 101, 3) := dq_182 (hz_wg wX6_readEither_0 (j := 39) (n := 182) rfl) (hz_wg wX6_readEither_0 (j := 40) (n := 0) rfl) (hz_wg wX6_readEither_0 (j := 41) (n := 101) rfl) rfl
theorem dX6_readEither_42 : decode cX6_readEither 42 = .ok (.istore_n 2, 1) := dq_61 (hz_wg wX6_readEither_0 (j := 42) (n := 61) rfl)
theorem dX6_readEither_43 : decode cX6_readEither 43 = .ok (.iload_n 2, 1) := dq_28 (hz_wg wX6_readEither_0 (j := 43) (n := 28) rfl)
theorem dX6_readEither_44 : decode cX6_readEither 44 = .ok (.ifCond .eq 16, 3) := dq_153 (hz_wg wX6_readEither_0 (j := 44) (n := 153) rfl) (hz_wg wX6_readEither_0 (j := 45) (n := 0) rfl) (hz_wg wX6_readEither_0 (j := 46) (n := 16) rfl) (by decide)
theorem dX6_readEither_47 : decode cX6_readEither 47 = .ok (.aload_n 0, 1) := dq_42 (hz_wg wX6_readEither_0 (j := 47) (n := 42) rfl)
theorem dX6_readEither_48 : decode cX6_readEither 48 = .ok (.dup, 1) := dq_89 (hz_wg wX6_readEither_0 (j := 48) (n := 89) rfl)
theorem dX6_readEither_49 : decode cX6_readEither 49 = .ok (.getfield 19, 3) := dq_180 (hz_wg wX6_readEither_0 (j := 49) (n := 180) rfl) (hz_wg wX6_readEither_0 (j := 50) (n := 0) rfl) (hz_wg wX6_readEither_0 (j := 51) (n := 19) rfl) rfl
theorem dX6_readEither_52 : decode cX6_readEither 52 = .ok (.iconst 3, 1) := dq_6 (hz_wg wX6_readEither_0 (j := 52) (n := 6) rfl)
theorem dX6_readEither_53 : decode cX6_readEither 53 = .ok (.iadd, 1) := dq_96 (hz_wg wX6_readEither_0 (j := 53) (n := 96) rfl)
theorem dX6_readEither_54 : decode cX6_readEither 54 = .ok (.putfield 19, 3) := dq_181 (hz_wg wX6_readEither_0 (j := 54) (n := 181) rfl) (hz_wg wX6_readEither_0 (j := 55) (n := 0) rfl) (hz_wg wX6_readEither_0 (j := 56) (n := 19) rfl) rfl
theorem dX6_readEither_57 : decode cX6_readEither 57 = .ok (.goto 39, 3) := dq_167 (hz_wg wX6_readEither_0 (j := 57) (n := 167) rfl) (hz_wg wX6_readEither_0 (j := 58) (n := 0) rfl) (hz_wg wX6_readEither_0 (j := 59) (n := 39) rfl) (by decide)
theorem dX6_readEither_60 : decode cX6_readEither 60 = .ok (.iload_n 3, 1) := dq_29 (hz_wg wX6_readEither_0 (j := 60) (n := 29) rfl)
theorem dX6_readEither_61 : decode cX6_readEither 61 = .ok (.ifCond .eq 12, 3) := dq_153 (hz_wg wX6_readEither_0 (j := 61) (n := 153) rfl) (hz_wg wX6_readEither_0 (j := 62) (n := 0) rfl) (hz_wg wX6_readEither_0 (j := 63) (n := 12) rfl) (by decide)
theorem dX6_readEither_64 : decode cX6_readEither 64 = .ok (.aload_n 0, 1) := dq_42 (hz_wg wX6_readEither_1 (j := 0) (n := 42) rfl)
theorem dX6_readEither_65 : decode cX6_readEither 65 = .ok (.getfield 31, 3) := dq_180 (hz_wg wX6_readEither_1 (j := 1) (n := 180) rfl) (hz_wg wX6_readEither_1 (j := 2) (n := 0) rfl) (hz_wg wX6_readEither_1 (j := 3) (n := 31) rfl) rfl
theorem dX6_readEither_68 : decode cX6_readEither 68 = .ok (.bipush (-2), 2) := dq_16 (hz_wg wX6_readEither_1 (j := 4) (n := 16) rfl) (hz_wg wX6_readEither_1 (j := 5) (n := 254) rfl) (by decide)
theorem dX6_readEither_70 : decode cX6_readEither 70 = .ok (.invokevirtual 95, 3) := dq_182 (hz_wg wX6_readEither_1 (j := 6) (n := 182) rfl) (hz_wg wX6_readEither_1 (j := 7) (n := 0) rfl) (hz_wg wX6_readEither_1 (j := 8) (n := 95) rfl) rfl
theorem dX6_readEither_73 : decode cX6_readEither 73 = .ok (.aload_n 0, 1) := dq_42 (hz_wg wX6_readEither_1 (j := 9) (n := 42) rfl)
theorem dX6_readEither_74 : decode cX6_readEither 74 = .ok (.ldc 105, 2) := dq_18 (hz_wg wX6_readEither_1 (j := 10) (n := 18) rfl) (hz_wg wX6_readEither_1 (j := 11) (n := 105) rfl)
theorem dX6_readEither_76 : decode cX6_readEither 76 = .ok (.invokevirtual 101, 3) := dq_182 (hz_wg wX6_readEither_1 (j := 12) (n := 182) rfl) (hz_wg wX6_readEither_1 (j := 13) (n := 0) rfl) (hz_wg wX6_readEither_1 (j := 14) (n := 101) rfl) rfl
theorem dX6_readEither_79 : decode cX6_readEither 79 = .ok (.istore_n 3, 1) := dq_62 (hz_wg wX6_readEither_1 (j := 15) (n := 62) rfl)
theorem dX6_readEither_80 : decode cX6_readEither 80 = .ok (.iload_n 3, 1) := dq_29 (hz_wg wX6_readEither_1 (j := 16) (n := 29) rfl)
theorem dX6_readEither_81 : decode cX6_readEither 81 = .ok (.ifCond .ne 5, 3) := dq_154 (hz_wg wX6_readEither_1 (j := 17) (n := 154) rfl) (hz_wg wX6_readEither_1 (j := 18) (n := 0) rfl) (hz_wg wX6_readEither_1 (j := 19) (n := 5) rfl) (by decide)
theorem dX6_readEither_84 : decode cX6_readEither 84 = .ok (.iconst 1, 1) := dq_4 (hz_wg wX6_readEither_1 (j := 20) (n := 4) rfl)
theorem dX6_readEither_85 : decode cX6_readEither 85 = .ok (.ireturn, 1) := dq_172 (hz_wg wX6_readEither_1 (j := 21) (n := 172) rfl)
theorem dX6_readEither_86 : decode cX6_readEither 86 = .ok (.aload_n 0, 1) := dq_42 (hz_wg wX6_readEither_1 (j := 22) (n := 42) rfl)
theorem dX6_readEither_87 : decode cX6_readEither 87 = .ok (.dup, 1) := dq_89 (hz_wg wX6_readEither_1 (j := 23) (n := 89) rfl)
theorem dX6_readEither_88 : decode cX6_readEither 88 = .ok (.getfield 19, 3) := dq_180 (hz_wg wX6_readEither_1 (j := 24) (n := 180) rfl) (hz_wg wX6_readEither_1 (j := 25) (n := 0) rfl) (hz_wg wX6_readEither_1 (j := 26) (n := 19) rfl) rfl
theorem dX6_readEither_91 : decode cX6_readEither 91 = .ok (.iconst 2, 1) := dq_5 (hz_wg wX6_readEither_1 (j := 27) (n := 5) rfl)
theorem dX6_readEither_92 : decode cX6_readEither 92 = .ok (.iadd, 1) := dq_96 (hz_wg wX6_readEither_1 (j := 28) (n := 96) rfl)
theorem dX6_readEither_93 : decode cX6_readEither 93 = .ok (.putfield 19, 3) := dq_181 (hz_wg wX6_readEither_1 (j := 29) (n := 181) rfl) (hz_wg wX6_readEither_1 (j := 30) (n := 0) rfl) (hz_wg wX6_readEither_1 (j := 31) (n := 19) rfl) rfl
theorem dX6_readEither_96 : decode cX6_readEither 96 = .ok (.iinc 4 1, 3) := dq_132 (hz_wg wX6_readEither_1 (j := 32) (n := 132) rfl) (hz_wg wX6_readEither_1 (j := 33) (n := 4) rfl) (hz_wg wX6_readEither_1 (j := 34) (n := 1) rfl) (by decide)
theorem dX6_readEither_99 : decode cX6_readEither 99 = .ok (.goto (-92), 3) := dq_167 (hz_wg wX6_readEither_1 (j := 35) (n := 167) rfl) (hz_wg wX6_readEither_1 (j := 36) (n := 255) rfl) (hz_wg wX6_readEither_1 (j := 37) (n := 164) rfl) (by decide)
theorem dX6_readEither_102 : decode cX6_readEither 102 = .ok (.iconst 0, 1) := dq_3 (hz_wg wX6_readEither_1 (j := 38) (n := 3) rfl)
theorem dX6_readEither_103 : decode cX6_readEither 103 = .ok (.ireturn, 1) := dq_172 (hz_wg wX6_readEither_1 (j := 39) (n := 172) rfl)
theorem dX6_readOne_41 : decode cX6_readOne 41 = .ok (.iload_n 2, 1) := dq_28 (hz_wg wX6_readOne_0 (j := 41) (n := 28) rfl)
theorem dX6_readOne_42 : decode cX6_readOne 42 = .ok (.ifCond .eq 36, 3) := dq_153 (hz_wg wX6_readOne_0 (j := 42) (n := 153) rfl) (hz_wg wX6_readOne_0 (j := 43) (n := 0) rfl) (hz_wg wX6_readOne_0 (j := 44) (n := 36) rfl) (by decide)
theorem dX6_readOne_45 : decode cX6_readOne 45 = .ok (.aload_n 0, 1) := dq_42 (hz_wg wX6_readOne_0 (j := 45) (n := 42) rfl)
theorem dX6_readOne_46 : decode cX6_readOne 46 = .ok (.dup, 1) := dq_89 (hz_wg wX6_readOne_0 (j := 46) (n := 89) rfl)
theorem dX6_readOne_47 : decode cX6_readOne 47 = .ok (.getfield 19, 3) := dq_180 (hz_wg wX6_readOne_0 (j := 47) (n := 180) rfl) (hz_wg wX6_readOne_0 (j := 48) (n := 0) rfl) (hz_wg wX6_readOne_0 (j := 49) (n := 19) rfl) rfl
theorem dX6_readOne_50 : decode cX6_readOne 50 = .ok (.iconst 3, 1) := dq_6 (hz_wg wX6_readOne_0 (j := 50) (n := 6) rfl)
theorem dX6_readOne_51 : decode cX6_readOne 51 = .ok (.iadd, 1) := dq_96 (hz_wg wX6_readOne_0 (j := 51) (n := 96) rfl)
theorem dX6_readOne_52 : decode cX6_readOne 52 = .ok (.putfield 19, 3) := dq_181 (hz_wg wX6_readOne_0 (j := 52) (n := 181) rfl) (hz_wg wX6_readOne_0 (j := 53) (n := 0) rfl) (hz_wg wX6_readOne_0 (j := 54) (n := 19) rfl) rfl
theorem dX6_readOne_55 : decode cX6_readOne 55 = .ok (.aload_n 0, 1) := dq_42 (hz_wg wX6_readOne_0 (j := 55) (n := 42) rfl)
theorem dX6_readOne_56 : decode cX6_readOne 56 = .ok (.iload_n 1, 1) := dq_27 (hz_wg wX6_readOne_0 (j := 56) (n := 27) rfl)
theorem dX6_readOne_57 : decode cX6_readOne 57 = .ok (.iconst 1, 1) := dq_4 (hz_wg wX6_readOne_0 (j := 57) (n := 4) rfl)
theorem dX6_readOne_58 : decode cX6_readOne 58 = .ok (.iadd, 1) := dq_96 (hz_wg wX6_readOne_0 (j := 58) (n := 96) rfl)
theorem dX6_readOne_59 : decode cX6_readOne 59 = .ok (.invokevirtual 92, 3) := dq_182 (hz_wg wX6_readOne_0 (j := 59) (n := 182) rfl) (hz_wg wX6_readOne_0 (j := 60) (n := 0) rfl) (hz_wg wX6_readOne_0 (j := 61) (n := 92) rfl) rfl
theorem dX6_readOne_62 : decode cX6_readOne 62 = .ok (.ifCond .ne 5, 3) := dq_154 (hz_wg wX6_readOne_0 (j := 62) (n := 154) rfl) (hz_wg wX6_readOne_0 (j := 63) (n := 0) rfl) (hz_wg wX6_readOne_1 (j := 0) (n := 5) rfl) (by decide)
theorem dX6_readOne_65 : decode cX6_readOne 65 = .ok (.iconst 0, 1) := dq_3 (hz_wg wX6_readOne_1 (j := 1) (n := 3) rfl)
theorem dX6_readOne_66 : decode cX6_readOne 66 = .ok (.ireturn, 1) := dq_172 (hz_wg wX6_readOne_1 (j := 2) (n := 172) rfl)
theorem dX6_readOne_67 : decode cX6_readOne 67 = .ok (.aload_n 0, 1) := dq_42 (hz_wg wX6_readOne_1 (j := 3) (n := 42) rfl)
theorem dX6_readOne_68 : decode cX6_readOne 68 = .ok (.getfield 31, 3) := dq_180 (hz_wg wX6_readOne_1 (j := 4) (n := 180) rfl) (hz_wg wX6_readOne_1 (j := 5) (n := 0) rfl) (hz_wg wX6_readOne_1 (j := 6) (n := 31) rfl) rfl
theorem dX6_readOne_71 : decode cX6_readOne 71 = .ok (.bipush (-3), 2) := dq_16 (hz_wg wX6_readOne_1 (j := 7) (n := 16) rfl) (hz_wg wX6_readOne_1 (j := 8) (n := 253) rfl) (by decide)
theorem dX6_readOne_73 : decode cX6_readOne 73 = .ok (.invokevirtual 95, 3) := dq_182 (hz_wg wX6_readOne_1 (j := 9) (n := 182) rfl) (hz_wg wX6_readOne_1 (j := 10) (n := 0) rfl) (hz_wg wX6_readOne_1 (j := 11) (n := 95) rfl) rfl
theorem dX6_readOne_76 : decode cX6_readOne 76 = .ok (.iconst 1, 1) := dq_4 (hz_wg wX6_readOne_1 (j := 12) (n := 4) rfl)
theorem dX6_readOne_77 : decode cX6_readOne 77 = .ok (.ireturn, 1) := dq_172 (hz_wg wX6_readOne_1 (j := 13) (n := 172) rfl)
theorem dX6_readOne_78 : decode cX6_readOne 78 = .ok (.aload_n 0, 1) := dq_42 (hz_wg wX6_readOne_1 (j := 14) (n := 42) rfl)
theorem dX6_readOne_79 : decode cX6_readOne 79 = .ok (.dup, 1) := dq_89 (hz_wg wX6_readOne_1 (j := 15) (n := 89) rfl)
theorem dX6_readOne_80 : decode cX6_readOne 80 = .ok (.getfield 19, 3) := dq_180 (hz_wg wX6_readOne_1 (j := 16) (n := 180) rfl) (hz_wg wX6_readOne_1 (j := 17) (n := 0) rfl) (hz_wg wX6_readOne_1 (j := 18) (n := 19) rfl) rfl
theorem dX6_readOne_83 : decode cX6_readOne 83 = .ok (.iconst 1, 1) := dq_4 (hz_wg wX6_readOne_1 (j := 19) (n := 4) rfl)
theorem dX6_readOne_84 : decode cX6_readOne 84 = .ok (.iadd, 1) := dq_96 (hz_wg wX6_readOne_1 (j := 20) (n := 96) rfl)
theorem dX6_readOne_85 : decode cX6_readOne 85 = .ok (.putfield 19, 3) := dq_181 (hz_wg wX6_readOne_1 (j := 21) (n := 181) rfl) (hz_wg wX6_readOne_1 (j := 22) (n := 0) rfl) (hz_wg wX6_readOne_1 (j := 23) (n := 19) rfl) rfl
theorem dX6_readOne_88 : decode cX6_readOne 88 = .ok (.aload_n 0, 1) := dq_42 (hz_wg wX6_readOne_1 (j := 24) (n := 42) rfl)
theorem dX6_readOne_89 : decode cX6_readOne 89 = .ok (.iload_n 1, 1) := dq_27 (hz_wg wX6_readOne_1 (j := 25) (n := 27) rfl)
theorem dX6_readOne_90 : decode cX6_readOne 90 = .ok (.iconst 1, 1) := dq_4 (hz_wg wX6_readOne_1 (j := 26) (n := 4) rfl)
theorem dX6_readOne_91 : decode cX6_readOne 91 = .ok (.iadd, 1) := dq_96 (hz_wg wX6_readOne_1 (j := 27) (n := 96) rfl)
theorem dX6_readOne_92 : decode cX6_readOne 92 = .ok (.invokevirtual 66, 3) := dq_182 (hz_wg wX6_readOne_1 (j := 28) (n := 182) rfl) (hz_wg wX6_readOne_1 (j := 29) (n := 0) rfl) (hz_wg wX6_readOne_1 (j := 30) (n := 66) rfl) rfl
theorem dX6_readOne_95 : decode cX6_readOne 95 = .ok (.ifCond .ne 5, 3) := dq_154 (hz_wg wX6_readOne_1 (j := 31) (n := 154) rfl) (hz_wg wX6_readOne_1 (j := 32) (n := 0) rfl) (hz_wg wX6_readOne_1 (j := 33) (n := 5) rfl) (by decide)
theorem dX6_readOne_98 : decode cX6_readOne 98 = .ok (.iconst 0, 1) := dq_3 (hz_wg wX6_readOne_1 (j := 34) (n := 3) rfl)
theorem dX6_readOne_99 : decode cX6_readOne 99 = .ok (.ireturn, 1) := dq_172 (hz_wg wX6_readOne_1 (j := 35) (n := 172) rfl)
theorem dX6_readOne_100 : decode cX6_readOne 100 = .ok (.aload_n 0, 1) := dq_42 (hz_wg wX6_readOne_1 (j := 36) (n := 42) rfl)
theorem dX6_readOne_101 : decode cX6_readOne 101 = .ok (.invokevirtual 35, 3) := dq_182 (hz_wg wX6_readOne_1 (j := 37) (n := 182) rfl) (hz_wg wX6_readOne_1 (j := 38) (n := 0) rfl) (hz_wg wX6_readOne_1 (j := 39) (n := 35) rfl) rfl
theorem dX6_readOne_104 : decode cX6_readOne 104 = .ok (.aload_n 0, 1) := dq_42 (hz_wg wX6_readOne_1 (j := 40) (n := 42) rfl)
theorem dX6_readOne_105 : decode cX6_readOne 105 = .ok (.bipush 41, 2) := dq_16 (hz_wg wX6_readOne_1 (j := 41) (n := 16) rfl) (hz_wg wX6_readOne_1 (j := 42) (n := 41) rfl) (by decide)
theorem dX6_readOne_107 : decode cX6_readOne 107 = .ok (.invokevirtual 109, 3) := dq_182 (hz_wg wX6_readOne_1 (j := 43) (n := 182) rfl) (hz_wg wX6_readOne_1 (j := 44) (n := 0) rfl) (hz_wg wX6_readOne_1 (j := 45) (n := 109) rfl) rfl
theorem dX6_readOne_110 : decode cX6_readOne 110 = .ok (.ifCond .ne 13, 3) := dq_154 (hz_wg wX6_readOne_1 (j := 46) (n := 154) rfl) (hz_wg wX6_readOne_1 (j := 47) (n := 0) rfl) (hz_wg wX6_readOne_1 (j := 48) (n := 13) rfl) (by decide)
theorem dX6_readOne_113 : decode cX6_readOne 113 = .ok (.aload_n 0, 1) := dq_42 (hz_wg wX6_readOne_1 (j := 49) (n := 42) rfl)
theorem dX6_readOne_114 : decode cX6_readOne 114 = .ok (.aload_n 0, 1) := dq_42 (hz_wg wX6_readOne_1 (j := 50) (n := 42) rfl)
theorem dX6_readOne_115 : decode cX6_readOne 115 = .ok (.getfield 19, 3) := dq_180 (hz_wg wX6_readOne_1 (j := 51) (n := 180) rfl) (hz_wg wX6_readOne_1 (j := 52) (n := 0) rfl) (hz_wg wX6_readOne_1 (j := 53) (n := 19) rfl) rfl
theorem dX6_readOne_118 : decode cX6_readOne 118 = .ok (.iconst 0, 1) := dq_3 (hz_wg wX6_readOne_1 (j := 54) (n := 3) rfl)
theorem dX6_readOne_119 : decode cX6_readOne 119 = .ok (.invokevirtual 45, 3) := dq_182 (hz_wg wX6_readOne_1 (j := 55) (n := 182) rfl) (hz_wg wX6_readOne_1 (j := 56) (n := 0) rfl) (hz_wg wX6_readOne_1 (j := 57) (n := 45) rfl) rfl
theorem dX6_readOne_122 : decode cX6_readOne 122 = .ok (.ireturn, 1) := dq_172 (hz_wg wX6_readOne_1 (j := 58) (n := 172) rfl)
theorem dX6_readOne_123 : decode cX6_readOne 123 = .ok (.aload_n 0, 1) := dq_42 (hz_wg wX6_readOne_1 (j := 59) (n := 42) rfl)
theorem dX6_readOne_124 : decode cX6_readOne 124 = .ok (.dup, 1) := dq_89 (hz_wg wX6_readOne_1 (j := 60) (n := 89) rfl)
theorem dX6_readOne_125 : decode cX6_readOne 125 = .ok (.getfield 19, 3) := dq_180 (hz_wg wX6_readOne_1 (j := 61) (n := 180) rfl) (hz_wg wX6_readOne_1 (j := 62) (n := 0) rfl) (hz_wg wX6_readOne_1 (j := 63) (n := 19) rfl) rfl
theorem dX6_readOne_128 : decode cX6_readOne 128 = .ok (.iconst 1, 1) := dq_4 (hz_wg wX6_readOne_2 (j := 0) (n := 4) rfl)
theorem dX6_readOne_129 : decode cX6_readOne 129 = .ok (.iadd, 1) := dq_96 (hz_wg wX6_readOne_2 (j := 1) (n := 96) rfl)
theorem dX6_readOne_130 : decode cX6_readOne 130 = .ok (.putfield 19, 3) := dq_181 (hz_wg wX6_readOne_2 (j := 2) (n := 181) rfl) (hz_wg wX6_readOne_2 (j := 3) (n := 0) rfl) (hz_wg wX6_readOne_2 (j := 4) (n := 19) rfl) rfl
theorem dX6_readOne_133 : decode cX6_readOne 133 = .ok (.iconst 1, 1) := dq_4 (hz_wg wX6_readOne_2 (j := 5) (n := 4) rfl)
theorem dX6_readOne_134 : decode cX6_readOne 134 = .ok (.ireturn, 1) := dq_172 (hz_wg wX6_readOne_2 (j := 6) (n := 172) rfl)