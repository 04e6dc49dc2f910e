def wLX10_takes_0 : List Nat := [29, 54, 5, 3, 54, 6, 3, 54, 7, 21, 7, 42, 180, 1, 111, 162, 0, 87, 21, 5, 158, 0, 82, 42, 180, 0, 84, 21, 7, 46, 27, 160, 0, 65, 42, 180, 0, 81, 21, 7, 46, 28, 160, 0, 54, 42, 21, 7, 182, 1, 163, 154, 0, 6, 167, 0, 42, 21, 5, 42, 180, 1, 145, 184]
def wLX10_takes_1 : List Nat := [1, 192, 54, 8, 21, 4, 153, 0, 16, 42, 21, 7, 42, 180, 0, 232, 21, 8, 182, 1, 169, 87, 21, 5, 21, 8, 100, 54, 5, 132, 6, 1, 132, 7, 1, 167, 255, 166, 21, 6, 172]
theorem wX10_takes_0 : (cX10_takes.data.toList.map UInt8.toNat).drop 0 = wLX10_takes_0 ++ (wLX10_takes_1 ++ ([])) := by decide +kernel
theorem wX10_takes_1 : (cX10_takes.data.toList.map UInt8.toNat).drop 64 = wLX10_takes_1 ++ ([]) := hz_wn wX10_takes_0 rfl
theorem dX10_takes_0 : decode cX10_takes 0 = .ok (.iload_n 3, 1) := dq_29 (hz_wg wX10_takes_0 (j := 0) (n := 29) rfl)
theorem dX10_takes_1 : decode cX10_takes 1 = .ok (.istore 5, 2) := dq_54 (hz_wg wX10_takes_0 (j := 1) (n := 54) rfl) (hz_wg wX10_takes_0 (j := 2) (n := 5) rfl)
theorem dX10_takes_3 : decode cX10_takes 3 = .ok (.iconst 0, 1) := dq_3 (hz_wg wX10_takes_0 (j := 3) (n := 3) rfl)
theorem dX10_takes_4 : decode cX10_takes 4 = .ok (.istore 6, 2) := dq_54 (hz_wg wX10_takes_0 (j := 4) (n := 54) rfl) (hz_wg wX10_takes_0 (j := 5) (n := 6) rfl)
theorem dX10_takes_6 : decode cX10_takes 6 = .ok (.iconst 0, 1) := dq_3 (hz_wg wX10_takes_0 (j := 6) (n := 3) rfl)
theorem dX10_takes_7 : decode cX10_takes 7 = .ok (.istore 7, 2) := dq_54 (hz_wg wX10_takes_0 (j := 7) (n := 54) rfl) (hz_wg wX10_takes_0 (j := 8) (n := 7) rfl)
theorem dX10_takes_9 : decode cX10_takes 9 = .ok (.iload 7, 2) := dq_21 (hz_wg wX10_takes_0 (j := 9) (n := 21) rfl) (hz_wg wX10_takes_0 (j := 10) (n := 7) rfl)
theorem dX10_takes_11 : decode cX10_takes 11 = .ok (.aload_n 0, 1) := dq_42 (hz_wg wX10_takes_0 (j := 11) (n := 42) rfl)
theorem dX10_takes_12 : decode cX10_takes 12 = .ok (.getfield 367, 3) := dq_180 (hz_wg wX10_takes_0 (j := 12) (n := 180) rfl) (hz_wg wX10_takes_0 (j := 13) (n := 1) rfl) (hz_wg wX10_takes_0 (j := 14) (n := 111) rfl) rfl
theorem dX10_takes_15 : decode cX10_takes 15 = .ok (.if_icmp .ge 87, 3) := dq_162 (hz_wg wX10_takes_0 (j := 15) (n := 162) rfl) (hz_wg wX10_takes_0 (j := 16) (n := 0) rfl) (hz_wg wX10_takes_0 (j := 17) (n := 87) rfl) (by decide)
theorem dX10_takes_18 : decode cX10_takes 18 = .ok (.iload 5, 2) := dq_21 (hz_wg wX10_takes_0 (j := 18) (n := 21) rfl) (hz_wg wX10_takes_0 (j := 19) (n := 5) rfl)
theorem dX10_takes_20 : decode cX10_takes 20 = .ok (.ifCond .le 82, 3) := dq_158 (hz_wg wX10_takes_0 (j := 20) (n := 158) rfl) (hz_wg wX10_takes_0 (j := 21) (n := 0) rfl) (hz_wg wX10_takes_0 (j := 22) (n := 82) rfl) (by decide)
theorem dX10_takes_23 : decode cX10_takes 23 = .ok (.aload_n 0, 1) := dq_42 (hz_wg wX10_takes_0 (j := 23) (n := 42) rfl)
theorem dX10_takes_24 : decode cX10_takes 24 = .ok (.getfield 84, 3) := dq_180 (hz_wg wX10_takes_0 (j := 24) (n := 180) rfl) (hz_wg wX10_takes_0 (j := 25) (n := 0) rfl) (hz_wg wX10_takes_0 (j := 26) (n := 84) rfl) rfl
theorem dX10_takes_27 : decode cX10_takes 27 = .ok (.iload 7, 2) := dq_21 (hz_wg wX10_takes_0 (j := 27) (n := 21) rfl) (hz_wg wX10_takes_0 (j := 28) (n := 7) rfl)
theorem dX10_takes_29 : decode cX10_takes 29 = .ok (.iaload, 1) := dq_46 (hz_wg wX10_takes_0 (j := 29) (n := 46) rfl)
theorem dX10_takes_30 : decode cX10_takes 30 = .ok (.iload_n 1, 1) := dq_27 (hz_wg wX10_takes_0 (j := 30) (n := 27) rfl)
theorem dX10_takes_31 : decode cX10_takes 31 = .ok (.if_icmp .ne 65, 3) := dq_160 (hz_wg wX10_takes_0 (j := 31) (n := 160) rfl) (hz_wg wX10_takes_0 (j := 32) (n := 0) rfl) (hz_wg wX10_takes_0 (j := 33) (n := 65) rfl) (by decide)
theorem dX10_takes_34 : decode cX10_takes 34 = .ok (.aload_n 0, 1) := dq_42 (hz_wg wX10_takes_0 (j := 34) (n := 42) rfl)
theorem dX10_takes_35 : decode cX10_takes 35 = .ok (.getfield 81, 3) := dq_180 (hz_wg wX10_takes_0 (j := 35) (n := 180) rfl) (hz_wg wX10_takes_0 (j := 36) (n := 0) rfl) (hz_wg wX10_takes_0 (j := 37) (n := 81) rfl) rfl
theorem dX10_takes_38 : decode cX10_takes 38 = .ok (.iload 7, 2) := dq_21 (hz_wg wX10_takes_0 (j := 38) (n := 21) rfl) (hz_wg wX10_takes_0 (j := 39) (n := 7) rfl)
theorem dX10_takes_40 : decode cX10_takes 40 = .ok (.iaload, 1) := dq_46 (hz_wg wX10_takes_0 (j := 40) (n := 46) rfl)
theorem dX10_takes_41 : decode cX10_takes 41 = .ok (.iload_n 2, 1) := dq_28 (hz_wg wX10_takes_0 (j := 41) (n := 28) rfl)
theorem dX10_takes_42 : decode cX10_takes 42 = .ok (.if_icmp .ne 54, 3) := dq_160 (hz_wg wX10_takes_0 (j := 42) (n := 160) rfl) (hz_wg wX10_takes_0 (j := 43) (n := 0) rfl) (hz_wg wX10_takes_0 (j := 44) (n := 54) rfl) (by decide)
theorem dX10_takes_45 : decode cX10_takes 45 = .ok (.aload_n 0, 1) := dq_42 (hz_wg wX10_takes_0 (j := 45) (n := 42) rfl)
theorem dX10_takes_46 : decode cX10_takes 46 = .ok (.iload 7, 2) := dq_21 (hz_wg wX10_takes_0 (j := 46) (n := 21) rfl) (hz_wg wX10_takes_0 (j := 47) (n := 7) rfl)
theorem dX10_takes_48 : decode cX10_takes 48 = .ok (.invokevirtual 419, 3) := dq_182 (hz_wg wX10_takes_0 (j := 48) (n := 182) rfl) (hz_wg wX10_takes_0 (j := 49) (n := 1) rfl) (hz_wg wX10_takes_0 (j := 50) (n := 163) rfl) rfl
theorem dX10_takes_51 : decode cX10_takes 51 = .ok (.ifCond .ne 6, 3) := dq_154 (hz_wg wX10_takes_0 (j := 51) (n := 154) rfl) (hz_wg wX10_takes_0 (j := 52) (n := 0) rfl) (hz_wg wX10_takes_0 (j := 53) (n := 6) rfl) (by decide)
theorem dX10_takes_54 : decode cX10_takes 54 = .ok (.goto 42, 3) := dq_167 (hz_wg wX10_takes_0 (j := 54) (n := 167) rfl) (hz_wg wX10_takes_0 (j := 55) (n := 0) rfl) (hz_wg wX10_takes_0 (j := 56) (n := 42) rfl) (by decide)
theorem dX10_takes_57 : decode cX10_takes 57 = .ok (.iload 5, 2) := dq_21 (hz_wg wX10_takes_0 (j := 57) (n := 21) rfl) (hz_wg wX10_takes_0 (j := 58) (n := 5) rfl)
theorem dX10_takes_59 : decode cX10_takes 59 = .ok (.aload_n 0, 1) := dq_42 (hz_wg wX10_takes_0 (j := 59) (n := 42) rfl)
theorem dX10_takes_60 : decode cX10_takes 60 = .ok (.getfield 401, 3) := dq_180 (hz_wg wX10_takes_0 (j := 60) (n := 180) rfl) (hz_wg wX10_takes_0 (j := 61) (n := 1) rfl) (hz_wg wX10_takes_0 (j := 62) (n := 145) rfl) rfl
theorem dX10_takes_63 : decode cX10_takes 63 = .ok (.invokestatic 448, 3) := dq_184 (hz_wg wX10_takes_0 (j := 63) (n := 184) rfl) (hz_wg wX10_takes_1 (j := 0) (n := 1) rfl) (hz_wg wX10_takes_1 (j := 1) (n := 192) rfl) rfl
theorem dX10_takes_66 : decode cX10_takes 66 = .ok (.istore 8, 2) := dq_54 (hz_wg wX10_takes_1 (j := 2) (n := 54) rfl) (hz_wg wX10_takes_1 (j := 3) (n := 8) rfl)
theorem dX10_takes_68 : decode cX10_takes 68 = .ok (.iload 4, 2) := dq_21 (hz_wg wX10_takes_1 (j := 4) (n := 21) rfl) (hz_wg wX10_takes_1 (j := 5) (n := 4) rfl)
theorem dX10_takes_70 : decode cX10_takes 70 = .ok (.ifCond .eq 16, 3) := dq_153 (hz_wg wX10_takes_1 (j := 6) (n := 153) rfl) (hz_wg wX10_takes_1 (j := 7) (n := 0) rfl) (hz_wg wX10_takes_1 (j := 8) (n := 16) rfl) (by decide)
theorem dX10_takes_86 : decode cX10_takes 86 = .ok (.iload 5, 2) := dq_21 (hz_wg wX10_takes_1 (j := 22) (n := 21) rfl) (hz_wg wX10_takes_1 (j := 23) (n := 5) rfl)
theorem dX10_takes_88 : decode cX10_takes 88 = .ok (.iload 8, 2) := dq_21 (hz_wg wX10_takes_1 (j := 24) (n := 21) rfl) (hz_wg wX10_takes_1 (j := 25) (n := 8) rfl)
theorem dX10_takes_90 : decode cX10_takes 90 = .ok (.isub, 1) := dq_100 (hz_wg wX10_takes_1 (j := 26) (n := 100) rfl)
theorem dX10_takes_91 : decode cX10_takes 91 = .ok (.istore 5, 2) := dq_54 (hz_wg wX10_takes_1 (j := 27) (n := 54) rfl) (hz_wg wX10_takes_1 (j := 28) (n := 5) rfl)
theorem dX10_takes_93 : decode cX10_takes 93 = .ok (.iinc 6 1, 3) := dq_132 (hz_wg wX10_takes_1 (j := 29) (n := 132) rfl) (hz_wg wX10_takes_1 (j := 30) (n := 6) rfl) (hz_wg wX10_takes_1 (j := 31) (n := 1) rfl) (by decide)
theorem dX10_takes_96 : decode cX10_takes 96 = .ok (.iinc 7 1, 3) := dq_132 (hz_wg wX10_takes_1 (j := 32) (n := 132) rfl) (hz_wg wX10_takes_1 (j := 33) (n := 7) rfl) (hz_wg wX10_takes_1 (j := 34) (n := 1) rfl) (by decide)
theorem dX10_takes_99 : decode cX10_takes 99 = .ok (.goto (-90), 3) := dq_167 (hz_wg wX10_takes_1 (j := 35) (n := 167) rfl) (hz_wg wX10_takes_1 (j := 36) (n := 255) rfl) (hz_wg wX10_takes_1 (j := 37) (n := 166) rfl) (by decide)
theorem dX10_takes_102 : decode cX10_takes 102 = .ok (.iload 6, 2) := dq_21 (hz_wg wX10_takes_1 (j := 38) (n := 21) rfl) (hz_wg wX10_takes_1 (j := 39) (n := 6) rfl)
theorem dX10_takes_104 : decode cX10_takes 104 = .ok (.ireturn, 1) := dq_172 (hz_wg wX10_takes_1 (j := 40) (n := 172) rfl)
theorem dX10_takes_73 : decode cX10_takes 73 = .ok (.aload_n 0, 1) := dq_42 (hz_wg wX10_takes_1 (j := 9) (n := 42) rfl)
theorem dX10_takes_74 : decode cX10_takes 74 = .ok (.iload 7, 2) := dq_21 (hz_wg wX10_takes_1 (j := 10) (n := 21) rfl) (hz_wg wX10_takes_1 (j := 11) (n := 7) rfl)
theorem dX10_takes_76 : decode cX10_takes 76 = .ok (.aload_n 0, 1) := dq_42 (hz_wg wX10_takes_1 (j := 12) (n := 42) rfl)
theorem dX10_takes_77 : decode cX10_takes 77 = .ok (.getfield 232, 3) := dq_180 (hz_wg wX10_takes_1 (j := 13) (n := 180) rfl) (hz_wg wX10_takes_1 (j := 14) (n := 0) rfl) (hz_wg wX10_takes_1 (j := 15) (n := 232) rfl) rfl
theorem dX10_takes_80 : decode cX10_takes 80 = .ok (.iload 8, 2) := dq_21 (hz_wg wX10_takes_1 (j := 16) (n := 21) rfl) (hz_wg wX10_takes_1 (j := 17) (n := 8) rfl)
theorem dX10_takes_82 : decode cX10_takes 82 = .ok (.invokevirtual 425, 3) := dq_182 (hz_wg wX10_takes_1 (j := 18) (n := 182) rfl) (hz_wg wX10_takes_1 (j := 19) (n := 1) rfl) (hz_wg wX10_takes_1 (j := 20) (n := 169) rfl) rfl
theorem dX10_takes_85 : decode cX10_takes 85 = .ok (.pop, 1) := dq_87 (hz_wg wX10_takes_1 (j := 21) (n := 87) rfl)