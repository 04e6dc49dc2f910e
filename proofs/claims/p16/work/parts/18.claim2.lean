def wLX2_missedOn_0 : List Nat := [42, 180, 0, 25, 28, 184, 0, 60, 153, 0, 14, 42, 180, 0, 31, 28, 184, 0, 60, 153, 0, 5, 3, 172, 42, 28, 182, 0, 83, 42, 180, 0, 86, 28, 42, 180, 0, 25, 100, 16, 7, 108, 104, 184, 0, 89, 54, 4, 21, 4, 42, 43, 28, 29, 182, 0, 92, 100, 42, 180, 0, 86, 184, 0]
def wLX2_missedOn_1 : List Nat := [95, 172]
theorem wX2_missedOn_0 : (cX2_missedOn.data.toList.map UInt8.toNat).drop 0 = wLX2_missedOn_0 ++ (wLX2_missedOn_1 ++ ([])) := by decide +kernel
theorem wX2_missedOn_1 : (cX2_missedOn.data.toList.map UInt8.toNat).drop 64 = wLX2_missedOn_1 ++ ([]) := hz_wn wX2_missedOn_0 rfl
theorem dX2_missedOn_0 : decode cX2_missedOn 0 = .ok (.aload_n 0, 1) := dq_42 (hz_wg wX2_missedOn_0 (j := 0) (n := 42) rfl)
theorem dX2_missedOn_1 : decode cX2_missedOn 1 = .ok (.getfield 25, 3) := dq_180 (hz_wg wX2_missedOn_0 (j := 1) (n := 180) rfl) (hz_wg wX2_missedOn_0 (j := 2) (n := 0) rfl) (hz_wg wX2_missedOn_0 (j := 3) (n := 25) rfl) rfl
theorem dX2_missedOn_4 : decode cX2_missedOn 4 = .ok (.iload_n 2, 1) := dq_28 (hz_wg wX2_missedOn_0 (j := 4) (n := 28) rfl)
theorem dX2_missedOn_5 : decode cX2_missedOn 5 = .ok (.invokestatic 60, 3) := dq_184 (hz_wg wX2_missedOn_0 (j := 5) (n := 184) rfl) (hz_wg wX2_missedOn_0 (j := 6) (n := 0) rfl) (hz_wg wX2_missedOn_0 (j := 7) (n := 60) rfl) rfl
theorem dX2_missedOn_8 : decode cX2_missedOn 8 = .ok (.ifCond .eq 14, 3) := dq_153 (hz_wg wX2_missedOn_0 (j := 8) (n := 153) rfl) (hz_wg wX2_missedOn_0 (j := 9) (n := 0) rfl) (hz_wg wX2_missedOn_0 (j := 10) (n := 14) rfl) (by decide)
theorem dX2_missedOn_11 : decode cX2_missedOn 11 = .ok (.aload_n 0, 1) := dq_42 (hz_wg wX2_missedOn_0 (j := 11) (n := 42) rfl)
theorem dX2_missedOn_12 : decode cX2_missedOn 12 = .ok (.getfield 31, 3) := dq_180 (hz_wg wX2_missedOn_0 (j := 12) (n := 180) rfl) (hz_wg wX2_missedOn_0 (j := 13) (n := 0) rfl) (hz_wg wX2_missedOn_0 (j := 14) (n := 31) rfl) rfl
theorem dX2_missedOn_15 : decode cX2_missedOn 15 = .ok (.iload_n 2, 1) := dq_28 (hz_wg wX2_missedOn_0 (j := 15) (n := 28) rfl)
theorem dX2_missedOn_16 : decode cX2_missedOn 16 = .ok (.invokestatic 60, 3) := dq_184 (hz_wg wX2_missedOn_0 (j := 16) (n := 184) rfl) (hz_wg wX2_missedOn_0 (j := 17) (n := 0) rfl) (hz_wg wX2_missedOn_0 (j := 18) (n := 60) rfl) rfl
theorem dX2_missedOn_19 : decode cX2_missedOn 19 = .ok (.ifCond .eq 5, 3) := dq_153 (hz_wg wX2_missedOn_0 (j := 19) (n := 153) rfl) (hz_wg wX2_missedOn_0 (j := 20) (n := 0) rfl) (hz_wg wX2_missedOn_0 (j := 21) (n := 5) rfl) (by decide)
theorem dX2_missedOn_22 : decode cX2_missedOn 22 = .ok (.iconst 0, 1) := dq_3 (hz_wg wX2_missedOn_0 (j := 22) (n := 3) rfl)
theorem dX2_missedOn_23 : decode cX2_missedOn 23 = .ok (.ireturn, 1) := dq_172 (hz_wg wX2_missedOn_0 (j := 23) (n := 172) rfl)
theorem dX2_missedOn_24 : decode cX2_missedOn 24 = .ok (.aload_n 0, 1) := dq_42 (hz_wg wX2_missedOn_0 (j := 24) (n := 42) rfl)
theorem dX2_missedOn_25 : decode cX2_missedOn 25 = .ok (.iload_n 2, 1) := dq_28 (hz_wg wX2_missedOn_0 (j := 25) (n := 28) rfl)
theorem dX2_missedOn_26 : decode cX2_missedOn 26 = .ok (.invokevirtual 83, 3) := dq_182 (hz_wg wX2_missedOn_0 (j := 26) (n := 182) rfl) (hz_wg wX2_missedOn_0 (j := 27) (n := 0) rfl) (hz_wg wX2_missedOn_0 (j := 28) (n := 83) rfl) rfl
theorem dX2_missedOn_29 : decode cX2_missedOn 29 = .ok (.aload_n 0, 1) := dq_42 (hz_wg wX2_missedOn_0 (j := 29) (n := 42) rfl)
theorem dX2_missedOn_30 : decode cX2_missedOn 30 = .ok (.getfield 86, 3) := dq_180 (hz_wg wX2_missedOn_0 (j := 30) (n := 180) rfl) (hz_wg wX2_missedOn_0 (j := 31) (n := 0) rfl) (hz_wg wX2_missedOn_0 (j := 32) (n := 86) rfl) rfl
theorem dX2_missedOn_33 : decode cX2_missedOn 33 = .ok (.iload_n 2, 1) := dq_28 (hz_wg wX2_missedOn_0 (j := 33) (n := 28) rfl)
theorem dX2_missedOn_34 : decode cX2_missedOn 34 = .ok (.aload_n 0, 1) := dq_42 (hz_wg wX2_missedOn_0 (j := 34) (n := 42) rfl)
theorem dX2_missedOn_35 : decode cX2_missedOn 35 = .ok (.getfield 25, 3) := dq_180 (hz_wg wX2_missedOn_0 (j := 35) (n := 180) rfl) (hz_wg wX2_missedOn_0 (j := 36) (n := 0) rfl) (hz_wg wX2_missedOn_0 (j := 37) (n := 25) rfl) rfl
theorem dX2_missedOn_38 : decode cX2_missedOn 38 = .ok (.isub, 1) := dq_100 (hz_wg wX2_missedOn_0 (j := 38) (n := 100) rfl)
theorem dX2_missedOn_39 : decode cX2_missedOn 39 = .ok (.bipush 7, 2) := dq_16 (hz_wg wX2_missedOn_0 (j := 39) (n := 16) rfl) (hz_wg wX2_missedOn_0 (j := 40) (n := 7) rfl) (by decide)
theorem dX2_missedOn_41 : decode cX2_missedOn 41 = .ok (.idiv, 1) := dq_108 (hz_wg wX2_missedOn_0 (j := 41) (n := 108) rfl)
theorem dX2_missedOn_42 : decode cX2_missedOn 42 = .ok (.imul, 1) := dq_104 (hz_wg wX2_missedOn_0 (j := 42) (n := 104) rfl)
theorem dX2_missedOn_43 : decode cX2_missedOn 43 = .ok (.invokestatic 89, 3) := dq_184 (hz_wg wX2_missedOn_0 (j := 43) (n := 184) rfl) (hz_wg wX2_missedOn_0 (j := 44) (n := 0) rfl) (hz_wg wX2_missedOn_0 (j := 45) (n := 89) rfl) rfl
theorem dX2_missedOn_46 : decode cX2_missedOn 46 = .ok (.istore 4, 2) := dq_54 (hz_wg wX2_missedOn_0 (j := 46) (n := 54) rfl) (hz_wg wX2_missedOn_0 (j := 47) (n := 4) rfl)
theorem dX2_missedOn_48 : decode cX2_missedOn 48 = .ok (.iload 4, 2) := dq_21 (hz_wg wX2_missedOn_0 (j := 48) (n := 21) rfl) (hz_wg wX2_missedOn_0 (j := 49) (n := 4) rfl)
theorem dX2_missedOn_50 : decode cX2_missedOn 50 = .ok (.aload_n 0, 1) := dq_42 (hz_wg wX2_missedOn_0 (j := 50) (n := 42) rfl)
theorem dX2_missedOn_51 : decode cX2_missedOn 51 = .ok (.aload_n 1, 1) := dq_43 (hz_wg wX2_missedOn_0 (j := 51) (n := 43) rfl)
theorem dX2_missedOn_52 : decode cX2_missedOn 52 = .ok (.iload_n 2, 1) := dq_28 (hz_wg wX2_missedOn_0 (j := 52) (n := 28) rfl)
theorem dX2_missedOn_53 : decode cX2_missedOn 53 = .ok (.iload_n 3, 1) := dq_29 (hz_wg wX2_missedOn_0 (j := 53) (n := 29) rfl)
theorem dX2_missedOn_54 : decode cX2_missedOn 54 = .ok (.invokevirtual 92, 3) := dq_182 (hz_wg wX2_missedOn_0 (j := 54) (n := 182) rfl) (hz_wg wX2_missedOn_0 (j := 55) (n := 0) rfl) (hz_wg wX2_missedOn_0 (j := 56) (n := 92) rfl) rfl
theorem dX2_missedOn_57 : decode cX2_missedOn 57 = .ok (.isub, 1) := dq_100 (hz_wg wX2_missedOn_0 (j := 57) (n := 100) rfl)
theorem dX2_missedOn_58 : decode cX2_missedOn 58 = .ok (.aload_n 0, 1) := dq_42 (hz_wg wX2_missedOn_0 (j := 58) (n := 42) rfl)
theorem dX2_missedOn_59 : decode cX2_missedOn 59 = .ok (.getfield 86, 3) := dq_180 (hz_wg wX2_missedOn_0 (j := 59) (n := 180) rfl) (hz_wg wX2_missedOn_0 (j := 60) (n := 0) rfl) (hz_wg wX2_missedOn_0 (j := 61) (n := 86) rfl) rfl
theorem dX2_missedOn_62 : decode cX2_missedOn 62 = .ok (.invokestatic 95, 3) := dq_184 (hz_wg wX2_missedOn_0 (j := 62) (n := 184) rfl) (hz_wg wX2_missedOn_0 (j := 63) (n := 0) rfl) (hz_wg wX2_missedOn_1 (j := 0) (n := 95) rfl) rfl
theorem dX2_missedOn_65 : decode cX2_missedOn 65 = .ok (.ireturn, 1) := dq_172 (hz_wg wX2_missedOn_1 (j := 1) (n := 172) rfl)
def wLX2_stateOn_0 : List Nat := [42, 180, 0, 25, 28, 184, 0, 60, 154, 0, 9, 42, 28, 182, 0, 64, 172, 42, 180, 0, 31, 28, 184, 0, 60, 153, 0, 6, 16, 8, 172, 42, 43, 28, 29, 182, 0, 56, 154, 0, 6, 16, 7, 172, 42, 43, 28, 29, 182, 0, 68, 54, 4, 21, 4, 42, 180, 0, 44, 180, 0, 51, 8, 46]
def wLX2_stateOn_1 : List Nat := [162, 0, 5, 7, 172, 21, 4, 42, 180, 0, 44, 180, 0, 51, 8, 46, 42, 180, 0, 44, 180, 0, 51, 16, 6, 46, 96, 162, 0, 7, 8, 167, 0, 5, 16, 6, 172]
theorem wX2_stateOn_0 : (cX2_stateOn.data.toList.map UInt8.toNat).drop 0 = wLX2_stateOn_0 ++ (wLX2_stateOn_1 ++ ([])) := by decide +kernel
theorem wX2_stateOn_1 : (cX2_stateOn.data.toList.map UInt8.toNat).drop 64 = wLX2_stateOn_1 ++ ([]) := hz_wn wX2_stateOn_0 rfl
theorem dX2_stateOn_0 : decode cX2_stateOn 0 = .ok (.aload_n 0, 1) := dq_42 (hz_wg wX2_stateOn_0 (j := 0) (n := 42) rfl)
theorem dX2_stateOn_1 : decode cX2_stateOn 1 = .ok (.getfield 25, 3) := dq_180 (hz_wg wX2_stateOn_0 (j := 1) (n := 180) rfl) (hz_wg wX2_stateOn_0 (j := 2) (n := 0) rfl) (hz_wg wX2_stateOn_0 (j := 3) (n := 25) rfl) rfl
theorem dX2_stateOn_4 : decode cX2_stateOn 4 = .ok (.iload_n 2, 1) := dq_28 (hz_wg wX2_stateOn_0 (j := 4) (n := 28) rfl)
theorem dX2_stateOn_5 : decode cX2_stateOn 5 = .ok (.invokestatic 60, 3) := dq_184 (hz_wg wX2_stateOn_0 (j := 5) (n := 184) rfl) (hz_wg wX2_stateOn_0 (j := 6) (n := 0) rfl) (hz_wg wX2_stateOn_0 (j := 7) (n := 60) rfl) rfl
theorem dX2_stateOn_8 : decode cX2_stateOn 8 = .ok (.ifCond .ne 9, 3) := dq_154 (hz_wg wX2_stateOn_0 (j := 8) (n := 154) rfl) (hz_wg wX2_stateOn_0 (j := 9) (n := 0) rfl) (hz_wg wX2_stateOn_0 (j := 10) (n := 9) rfl) (by decide)
theorem dX2_stateOn_11 : decode cX2_stateOn 11 = .ok (.aload_n 0, 1) := dq_42 (hz_wg wX2_stateOn_0 (j := 11) (n := 42) rfl)
theorem dX2_stateOn_12 : decode cX2_stateOn 12 = .ok (.iload_n 2, 1) := dq_28 (hz_wg wX2_stateOn_0 (j := 12) (n := 28) rfl)
theorem dX2_stateOn_13 : decode cX2_stateOn 13 = .ok (.invokevirtual 64, 3) := dq_182 (hz_wg wX2_stateOn_0 (j := 13) (n := 182) rfl) (hz_wg wX2_stateOn_0 (j := 14) (n := 0) rfl) (hz_wg wX2_stateOn_0 (j := 15) (n := 64) rfl) rfl
theorem dX2_stateOn_16 : decode cX2_stateOn 16 = .ok (.ireturn, 1) := dq_172 (hz_wg wX2_stateOn_0 (j := 16) (n := 172) rfl)
theorem dX2_stateOn_17 : decode cX2_stateOn 17 = .ok (.aload_n 0, 1) := dq_42 (hz_wg wX2_stateOn_0 (j := 17) (n := 42) rfl)
theorem dX2_stateOn_18 : decode cX2_stateOn 18 = .ok (.getfield 31, 3) := dq_180 (hz_wg wX2_stateOn_0 (j := 18) (n := 180) rfl) (hz_wg wX2_stateOn_0 (j := 19) (n := 0) rfl) (hz_wg wX2_stateOn_0 (j := 20) (n := 31) rfl) rfl
theorem dX2_stateOn_21 : decode cX2_stateOn 21 = .ok (.iload_n 2, 1) := dq_28 (hz_wg wX2_stateOn_0 (j := 21) (n := 28) rfl)
theorem dX2_stateOn_22 : decode cX2_stateOn 22 = .ok (.invokestatic 60, 3) := dq_184 (hz_wg wX2_stateOn_0 (j := 22) (n := 184) rfl) (hz_wg wX2_stateOn_0 (j := 23) (n := 0) rfl) (hz_wg wX2_stateOn_0 (j := 24) (n := 60) rfl) rfl
theorem dX2_stateOn_25 : decode cX2_stateOn 25 = .ok (.ifCond .eq 6, 3) := dq_153 (hz_wg wX2_stateOn_0 (j := 25) (n := 153) rfl) (hz_wg wX2_stateOn_0 (j := 26) (n := 0) rfl) (hz_wg wX2_stateOn_0 (j := 27) (n := 6) rfl) (by decide)
theorem dX2_stateOn_28 : decode cX2_stateOn 28 = .ok (.bipush 8, 2) := dq_16 (hz_wg wX2_stateOn_0 (j := 28) (n := 16) rfl) (hz_wg wX2_stateOn_0 (j := 29) (n := 8) rfl) (by decide)
theorem dX2_stateOn_30 : decode cX2_stateOn 30 = .ok (.ireturn, 1) := dq_172 (hz_wg wX2_stateOn_0 (j := 30) (n := 172) rfl)
theorem dX2_stateOn_31 : decode cX2_stateOn 31 = .ok (.aload_n 0, 1) := dq_42 (hz_wg wX2_stateOn_0 (j := 31) (n := 42) rfl)
theorem dX2_stateOn_32 : decode cX2_stateOn 32 = .ok (.aload_n 1, 1) := dq_43 (hz_wg wX2_stateOn_0 (j := 32) (n := 43) rfl)
theorem dX2_stateOn_33 : decode cX2_stateOn 33 = .ok (.iload_n 2, 1) := dq_28 (hz_wg wX2_stateOn_0 (j := 33) (n := 28) rfl)
theorem dX2_stateOn_34 : decode cX2_stateOn 34 = .ok (.iload_n 3, 1) := dq_29 (hz_wg wX2_stateOn_0 (j := 34) (n := 29) rfl)
theorem dX2_stateOn_35 : decode cX2_stateOn 35 = .ok (.invokevirtual 56, 3) := dq_182 (hz_wg wX2_stateOn_0 (j := 35) (n := 182) rfl) (hz_wg wX2_stateOn_0 (j := 36) (n := 0) rfl) (hz_wg wX2_stateOn_0 (j := 37) (n := 56) rfl) rfl
theorem dX2_stateOn_38 : decode cX2_stateOn 38 = .ok (.ifCond .ne 6, 3) := dq_154 (hz_wg wX2_stateOn_0 (j := 38) (n := 154) rfl) (hz_wg wX2_stateOn_0 (j := 39) (n := 0) rfl) (hz_wg wX2_stateOn_0 (j := 40) (n := 6) rfl) (by decide)
theorem dX2_stateOn_41 : decode cX2_stateOn 41 = .ok (.bipush 7, 2) := dq_16 (hz_wg wX2_stateOn_0 (j := 41) (n := 16) rfl) (hz_wg wX2_stateOn_0 (j := 42) (n := 7) rfl) (by decide)
theorem dX2_stateOn_43 : decode cX2_stateOn 43 = .ok (.ireturn, 1) := dq_172 (hz_wg wX2_stateOn_0 (j := 43) (n := 172) rfl)
theorem dX2_stateOn_44 : decode cX2_stateOn 44 = .ok (.aload_n 0, 1) := dq_42 (hz_wg wX2_stateOn_0 (j := 44) (n := 42) rfl)
theorem dX2_stateOn_45 : decode cX2_stateOn 45 = .ok (.aload_n 1, 1) := dq_43 (hz_wg wX2_stateOn_0 (j := 45) (n := 43) rfl)
theorem dX2_stateOn_46 : decode cX2_stateOn 46 = .ok (.iload_n 2, 1) := dq_28 (hz_wg wX2_stateOn_0 (j := 46) (n := 28) rfl)
theorem dX2_stateOn_47 : decode cX2_stateOn 47 = .ok (.iload_n 3, 1) := dq_29 (hz_wg wX2_stateOn_0 (j := 47) (n := 29) rfl)
theorem dX2_stateOn_48 : decode cX2_stateOn 48 = .ok (.invokevirtual 68, 3) := dq_182 (hz_wg wX2_stateOn_0 (j := 48) (n := 182) rfl) (hz_wg wX2_stateOn_0 (j := 49) (n := 0) rfl) (hz_wg wX2_stateOn_0 (j := 50) (n := 68) rfl) rfl
theorem dX2_stateOn_51 : decode cX2_stateOn 51 = .ok (.istore 4, 2) := dq_54 (hz_wg wX2_stateOn_0 (j := 51) (n := 54) rfl) (hz_wg wX2_stateOn_0 (j := 52) (n := 4) rfl)
theorem dX2_stateOn_53 : decode cX2_stateOn 53 = .ok (.iload 4, 2) := dq_21 (hz_wg wX2_stateOn_0 (j := 53) (n := 21) rfl) (hz_wg wX2_stateOn_0 (j := 54) (n := 4) rfl)
theorem dX2_stateOn_55 : decode cX2_stateOn 55 = .ok (.aload_n 0, 1) := dq_42 (hz_wg wX2_stateOn_0 (j := 55) (n := 42) rfl)
theorem dX2_stateOn_56 : decode cX2_stateOn 56 = .ok (.getfield 44, 3) := dq_180 (hz_wg wX2_stateOn_0 (j := 56) (n := 180) rfl) (hz_wg wX2_stateOn_0 (j := 57) (n := 0) rfl) (hz_wg wX2_stateOn_0 (j := 58) (n := 44) rfl) rfl
theorem dX2_stateOn_59 : decode cX2_stateOn 59 = .ok (.getfield 51, 3) := dq_180 (hz_wg wX2_stateOn_0 (j := 59) (n := 180) rfl) (hz_wg wX2_stateOn_0 (j := 60) (n := 0) rfl) (hz_wg wX2_stateOn_0 (j := 61) (n := 51) rfl) rfl
theorem dX2_stateOn_62 : decode cX2_stateOn 62 = .ok (.iconst 5, 1) := dq_8 (hz_wg wX2_stateOn_0 (j := 62) (n := 8) rfl)
theorem dX2_stateOn_63 : decode cX2_stateOn 63 = .ok (.iaload, 1) := dq_46 (hz_wg wX2_stateOn_0 (j := 63) (n := 46) rfl)
theorem dX2_stateOn_64 : decode cX2_stateOn 64 = .ok (.if_icmp .ge 5, 3) := dq_162 (hz_wg wX2_stateOn_1 (j := 0) (n := 162) rfl) (hz_wg wX2_stateOn_1 (j := 1) (n := 0) rfl) (hz_wg wX2_stateOn_1 (j := 2) (n := 5) rfl) (by decide)
theorem dX2_stateOn_67 : decode cX2_stateOn 67 = .ok (.iconst 4, 1) := dq_7 (hz_wg wX2_stateOn_1 (j := 3) (n := 7) rfl)
theorem dX2_stateOn_68 : decode cX2_stateOn 68 = .ok (.ireturn, 1) := dq_172 (hz_wg wX2_stateOn_1 (j := 4) (n := 172) rfl)
theorem dX2_stateOn_69 : decode cX2_stateOn 69 = .ok (.iload 4, 2) := dq_21 (hz_wg wX2_stateOn_1 (j := 5) (n := 21) rfl) (hz_wg wX2_stateOn_1 (j := 6) (n := 4) rfl)
theorem dX2_stateOn_71 : decode cX2_stateOn 71 = .ok (.aload_n 0, 1) := dq_42 (hz_wg wX2_stateOn_1 (j := 7) (n := 42) rfl)
theorem dX2_stateOn_72 : decode cX2_stateOn 72 = .ok (.getfield 44, 3) := dq_180 (hz_wg wX2_stateOn_1 (j := 8) (n := 180) rfl) (hz_wg wX2_stateOn_1 (j := 9) (n := 0) rfl) (hz_wg wX2_stateOn_1 (j := 10) (n := 44) rfl) rfl
theorem dX2_stateOn_75 : decode cX2_stateOn 75 = .ok (.getfield 51, 3) := dq_180 (hz_wg wX2_stateOn_1 (j := 11) (n := 180) rfl) (hz_wg wX2_stateOn_1 (j := 12) (n := 0) rfl) (hz_wg wX2_stateOn_1 (j := 13) (n := 51) rfl) rfl
theorem dX2_stateOn_78 : decode cX2_stateOn 78 = .ok (.iconst 5, 1) := dq_8 (hz_wg wX2_stateOn_1 (j := 14) (n := 8) rfl)
theorem dX2_stateOn_79 : decode cX2_stateOn 79 = .ok (.iaload, 1) := dq_46 (hz_wg wX2_stateOn_1 (j := 15) (n := 46) rfl)
theorem dX2_stateOn_80 : decode cX2_stateOn 80 = .ok (.aload_n 0, 1) := dq_42 (hz_wg wX2_stateOn_1 (j := 16) (n := 42) rfl)
theorem dX2_stateOn_81 : decode cX2_stateOn 81 = .ok (.getfield 44, 3) := dq_180 (hz_wg wX2_stateOn_1 (j := 17) (n := 180) rfl) (hz_wg wX2_stateOn_1 (j := 18) (n := 0) rfl) (hz_wg wX2_stateOn_1 (j := 19) (n := 44) rfl) rfl
theorem dX2_stateOn_84 : decode cX2_stateOn 84 = .ok (.getfield 51, 3) := dq_180 (hz_wg wX2_stateOn_1 (j := 20) (n := 180) rfl) (hz_wg wX2_stateOn_1 (j := 21) (n := 0) rfl) (hz_wg wX2_stateOn_1 (j := 22) (n := 51) rfl) rfl
theorem dX2_stateOn_87 : decode cX2_stateOn 87 = .ok (.bipush 6, 2) := dq_16 (hz_wg wX2_stateOn_1 (j := 23) (n := 16) rfl) (hz_wg wX2_stateOn_1 (j := 24) (n := 6) rfl) (by decide)
theorem dX2_stateOn_89 : decode cX2_stateOn 89 = .ok (.iaload, 1) := dq_46 (hz_wg wX2_stateOn_1 (j := 25) (n := 46) rfl)
theorem dX2_stateOn_90 : decode cX2_stateOn 90 = .ok (.iadd, 1) := dq_96 (hz_wg wX2_stateOn_1 (j := 26) (n := 96) rfl)
theorem dX2_stateOn_91 : decode cX2_stateOn 91 = .ok (.if_icmp .ge 7, 3) := dq_162 (hz_wg wX2_stateOn_1 (j := 27) (n := 162) rfl) (hz_wg wX2_stateOn_1 (j := 28) (n := 0) rfl) (hz_wg wX2_stateOn_1 (j := 29) (n := 7) rfl) (by decide)
theorem dX2_stateOn_94 : decode cX2_stateOn 94 = .ok (.iconst 5, 1) := dq_8 (hz_wg wX2_stateOn_1 (j := 30) (n := 8) rfl)
theorem dX2_stateOn_95 : decode cX2_stateOn 95 = .ok (.goto 5, 3) := dq_167 (hz_wg wX2_stateOn_1 (j := 31) (n := 167) rfl) (hz_wg wX2_stateOn_1 (j := 32) (n := 0) rfl) (hz_wg wX2_stateOn_1 (j := 33) (n := 5) rfl) (by decide)
theorem dX2_stateOn_98 : decode cX2_stateOn 98 = .ok (.bipush 6, 2) := dq_16 (hz_wg wX2_stateOn_1 (j := 34) (n := 16) rfl) (hz_wg wX2_stateOn_1 (j := 35) (n := 6) rfl) (by decide)
theorem dX2_stateOn_100 : decode cX2_stateOn 100 = .ok (.ireturn, 1) := dq_172 (hz_wg wX2_stateOn_1 (j := 36) (n := 172) rfl)