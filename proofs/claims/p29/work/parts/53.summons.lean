def wLX10_summons_0 : List Nat := [42, 27, 182, 1, 114, 153, 0, 23, 42, 180, 0, 108, 27, 46, 2, 160, 0, 13, 42, 180, 0, 111, 27, 46, 2, 159, 0, 5, 2, 172, 42, 180, 0, 105, 27, 92, 46, 4, 96, 79, 28, 153, 0, 13, 42, 180, 0, 108, 27, 42, 180, 0, 232, 79, 42, 180, 0, 105, 27, 46, 172]
theorem wX10_summons_0 : (cX10_summons.data.toList.map UInt8.toNat).drop 0 = wLX10_summons_0 ++ ([]) := by decide +kernel
theorem dX10_summons_0 : decode cX10_summons 0 = .ok (.aload_n 0, 1) := dq_42 (hz_wg wX10_summons_0 (j := 0) (n := 42) rfl)
theorem dX10_summons_1 : decode cX10_summons 1 = .ok (.iload_n 1, 1) := dq_27 (hz_wg wX10_summons_0 (j := 1) (n := 27) rfl)
theorem dX10_summons_2 : decode cX10_summons 2 = .ok (.invokevirtual 370, 3) := dq_182 (hz_wg wX10_summons_0 (j := 2) (n := 182) rfl) (hz_wg wX10_summons_0 (j := 3) (n := 1) rfl) (hz_wg wX10_summons_0 (j := 4) (n := 114) rfl) rfl
theorem dX10_summons_5 : decode cX10_summons 5 = .ok (.ifCond .eq 23, 3) := dq_153 (hz_wg wX10_summons_0 (j := 5) (n := 153) rfl) (hz_wg wX10_summons_0 (j := 6) (n := 0) rfl) (hz_wg wX10_summons_0 (j := 7) (n := 23) rfl) (by decide)
theorem dX10_summons_8 : decode cX10_summons 8 = .ok (.aload_n 0, 1) := dq_42 (hz_wg wX10_summons_0 (j := 8) (n := 42) rfl)
theorem dX10_summons_9 : decode cX10_summons 9 = .ok (.getfield 108, 3) := dq_180 (hz_wg wX10_summons_0 (j := 9) (n := 180) rfl) (hz_wg wX10_summons_0 (j := 10) (n := 0) rfl) (hz_wg wX10_summons_0 (j := 11) (n := 108) rfl) rfl
theorem dX10_summons_12 : decode cX10_summons 12 = .ok (.iload_n 1, 1) := dq_27 (hz_wg wX10_summons_0 (j := 12) (n := 27) rfl)
theorem dX10_summons_13 : decode cX10_summons 13 = .ok (.iaload, 1) := dq_46 (hz_wg wX10_summons_0 (j := 13) (n := 46) rfl)
theorem dX10_summons_14 : decode cX10_summons 14 = .ok (.iconst (-1), 1) := dq_2 (hz_wg wX10_summons_0 (j := 14) (n := 2) rfl)
theorem dX10_summons_15 : decode cX10_summons 15 = .ok (.if_icmp .ne 13, 3) := dq_160 (hz_wg wX10_summons_0 (j := 15) (n := 160) rfl) (hz_wg wX10_summons_0 (j := 16) (n := 0) rfl) (hz_wg wX10_summons_0 (j := 17) (n := 13) rfl) (by decide)
theorem dX10_summons_18 : decode cX10_summons 18 = .ok (.aload_n 0, 1) := dq_42 (hz_wg wX10_summons_0 (j := 18) (n := 42) rfl)
theorem dX10_summons_19 : decode cX10_summons 19 = .ok (.getfield 111, 3) := dq_180 (hz_wg wX10_summons_0 (j := 19) (n := 180) rfl) (hz_wg wX10_summons_0 (j := 20) (n := 0) rfl) (hz_wg wX10_summons_0 (j := 21) (n := 111) rfl) rfl
theorem dX10_summons_22 : decode cX10_summons 22 = .ok (.iload_n 1, 1) := dq_27 (hz_wg wX10_summons_0 (j := 22) (n := 27) rfl)
theorem dX10_summons_23 : decode cX10_summons 23 = .ok (.iaload, 1) := dq_46 (hz_wg wX10_summons_0 (j := 23) (n := 46) rfl)
theorem dX10_summons_24 : decode cX10_summons 24 = .ok (.iconst (-1), 1) := dq_2 (hz_wg wX10_summons_0 (j := 24) (n := 2) rfl)
theorem dX10_summons_25 : decode cX10_summons 25 = .ok (.if_icmp .eq 5, 3) := dq_159 (hz_wg wX10_summons_0 (j := 25) (n := 159) rfl) (hz_wg wX10_summons_0 (j := 26) (n := 0) rfl) (hz_wg wX10_summons_0 (j := 27) (n := 5) rfl) (by decide)
theorem dX10_summons_28 : decode cX10_summons 28 = .ok (.iconst (-1), 1) := dq_2 (hz_wg wX10_summons_0 (j := 28) (n := 2) rfl)
theorem dX10_summons_29 : decode cX10_summons 29 = .ok (.ireturn, 1) := dq_172 (hz_wg wX10_summons_0 (j := 29) (n := 172) rfl)
theorem dX10_summons_30 : decode cX10_summons 30 = .ok (.aload_n 0, 1) := dq_42 (hz_wg wX10_summons_0 (j := 30) (n := 42) rfl)
theorem dX10_summons_31 : decode cX10_summons 31 = .ok (.getfield 105, 3) := dq_180 (hz_wg wX10_summons_0 (j := 31) (n := 180) rfl) (hz_wg wX10_summons_0 (j := 32) (n := 0) rfl) (hz_wg wX10_summons_0 (j := 33) (n := 105) rfl) rfl
theorem dX10_summons_34 : decode cX10_summons 34 = .ok (.iload_n 1, 1) := dq_27 (hz_wg wX10_summons_0 (j := 34) (n := 27) rfl)
theorem dX10_summons_35 : decode cX10_summons 35 = .ok (.dup2, 1) := dq_92 (hz_wg wX10_summons_0 (j := 35) (n := 92) rfl)
theorem dX10_summons_36 : decode cX10_summons 36 = .ok (.iaload, 1) := dq_46 (hz_wg wX10_summons_0 (j := 36) (n := 46) rfl)
theorem dX10_summons_37 : decode cX10_summons 37 = .ok (.iconst 1, 1) := dq_4 (hz_wg wX10_summons_0 (j := 37) (n := 4) rfl)
theorem dX10_summons_38 : decode cX10_summons 38 = .ok (.iadd, 1) := dq_96 (hz_wg wX10_summons_0 (j := 38) (n := 96) rfl)
theorem dX10_summons_39 : decode cX10_summons 39 = .ok (.iastore, 1) := dq_79 (hz_wg wX10_summons_0 (j := 39) (n := 79) rfl)
theorem dX10_summons_40 : decode cX10_summons 40 = .ok (.iload_n 2, 1) := dq_28 (hz_wg wX10_summons_0 (j := 40) (n := 28) rfl)
theorem dX10_summons_41 : decode cX10_summons 41 = .ok (.ifCond .eq 13, 3) := dq_153 (hz_wg wX10_summons_0 (j := 41) (n := 153) rfl) (hz_wg wX10_summons_0 (j := 42) (n := 0) rfl) (hz_wg wX10_summons_0 (j := 43) (n := 13) rfl) (by decide)
theorem dX10_summons_44 : decode cX10_summons 44 = .ok (.aload_n 0, 1) := dq_42 (hz_wg wX10_summons_0 (j := 44) (n := 42) rfl)
theorem dX10_summons_45 : decode cX10_summons 45 = .ok (.getfield 108, 3) := dq_180 (hz_wg wX10_summons_0 (j := 45) (n := 180) rfl) (hz_wg wX10_summons_0 (j := 46) (n := 0) rfl) (hz_wg wX10_summons_0 (j := 47) (n := 108) rfl) rfl
theorem dX10_summons_48 : decode cX10_summons 48 = .ok (.iload_n 1, 1) := dq_27 (hz_wg wX10_summons_0 (j := 48) (n := 27) rfl)
theorem dX10_summons_49 : decode cX10_summons 49 = .ok (.aload_n 0, 1) := dq_42 (hz_wg wX10_summons_0 (j := 49) (n := 42) rfl)
theorem dX10_summons_50 : decode cX10_summons 50 = .ok (.getfield 232, 3) := dq_180 (hz_wg wX10_summons_0 (j := 50) (n := 180) rfl) (hz_wg wX10_summons_0 (j := 51) (n := 0) rfl) (hz_wg wX10_summons_0 (j := 52) (n := 232) rfl) rfl
theorem dX10_summons_53 : decode cX10_summons 53 = .ok (.iastore, 1) := dq_79 (hz_wg wX10_summons_0 (j := 53) (n := 79) rfl)
theorem dX10_summons_54 : decode cX10_summons 54 = .ok (.aload_n 0, 1) := dq_42 (hz_wg wX10_summons_0 (j := 54) (n := 42) rfl)
theorem dX10_summons_55 : decode cX10_summons 55 = .ok (.getfield 105, 3) := dq_180 (hz_wg wX10_summons_0 (j := 55) (n := 180) rfl) (hz_wg wX10_summons_0 (j := 56) (n := 0) rfl) (hz_wg wX10_summons_0 (j := 57) (n := 105) rfl) rfl
theorem dX10_summons_58 : decode cX10_summons 58 = .ok (.iload_n 1, 1) := dq_27 (hz_wg wX10_summons_0 (j := 58) (n := 27) rfl)
theorem dX10_summons_59 : decode cX10_summons 59 = .ok (.iaload, 1) := dq_46 (hz_wg wX10_summons_0 (j := 59) (n := 46) rfl)
theorem dX10_summons_60 : decode cX10_summons 60 = .ok (.ireturn, 1) := dq_172 (hz_wg wX10_summons_0 (j := 60) (n := 172) rfl)