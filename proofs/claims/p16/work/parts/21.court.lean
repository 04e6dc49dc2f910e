def wLX9_livingJudges_0 : List Nat := [3, 60, 3, 61, 28, 42, 180, 0, 125, 162, 0, 41, 27, 42, 180, 0, 35, 28, 50, 180, 0, 152, 153, 0, 19, 42, 180, 0, 35, 28, 50, 180, 0, 148, 154, 0, 7, 4, 167, 0, 4, 3, 96, 60, 132, 2, 1, 167, 255, 213, 27, 172]
theorem wX9_livingJudges_0 : (cX9_livingJudges.data.toList.map UInt8.toNat).drop 0 = wLX9_livingJudges_0 ++ ([]) := by decide +kernel
theorem dX9_livingJudges_0 : decode cX9_livingJudges 0 = .ok (.iconst 0, 1) := dq_3 (hz_wg wX9_livingJudges_0 (j := 0) (n := 3) rfl)
theorem dX9_livingJudges_1 : decode cX9_livingJudges 1 = .ok (.istore_n 1, 1) := dq_60 (hz_wg wX9_livingJudges_0 (j := 1) (n := 60) rfl)
theorem dX9_livingJudges_2 : decode cX9_livingJudges 2 = .ok (.iconst 0, 1) := dq_3 (hz_wg wX9_livingJudges_0 (j := 2) (n := 3) rfl)
theorem dX9_livingJudges_3 : decode cX9_livingJudges 3 = .ok (.istore_n 2, 1) := dq_61 (hz_wg wX9_livingJudges_0 (j := 3) (n := 61) rfl)
theorem dX9_livingJudges_4 : decode cX9_livingJudges 4 = .ok (.iload_n 2, 1) := dq_28 (hz_wg wX9_livingJudges_0 (j := 4) (n := 28) rfl)
theorem dX9_livingJudges_5 : decode cX9_livingJudges 5 = .ok (.aload_n 0, 1) := dq_42 (hz_wg wX9_livingJudges_0 (j := 5) (n := 42) rfl)
theorem dX9_livingJudges_6 : decode cX9_livingJudges 6 = .ok (.getfield 125, 3) := dq_180 (hz_wg wX9_livingJudges_0 (j := 6) (n := 180) rfl) (hz_wg wX9_livingJudges_0 (j := 7) (n := 0) rfl) (hz_wg wX9_livingJudges_0 (j := 8) (n := 125) rfl) rfl
theorem dX9_livingJudges_9 : decode cX9_livingJudges 9 = .ok (.if_icmp .ge 41, 3) := dq_162 (hz_wg wX9_livingJudges_0 (j := 9) (n := 162) rfl) (hz_wg wX9_livingJudges_0 (j := 10) (n := 0) rfl) (hz_wg wX9_livingJudges_0 (j := 11) (n := 41) rfl) (by decide)
theorem dX9_livingJudges_12 : decode cX9_livingJudges 12 = .ok (.iload_n 1, 1) := dq_27 (hz_wg wX9_livingJudges_0 (j := 12) (n := 27) rfl)
theorem dX9_livingJudges_13 : decode cX9_livingJudges 13 = .ok (.aload_n 0, 1) := dq_42 (hz_wg wX9_livingJudges_0 (j := 13) (n := 42) rfl)
theorem dX9_livingJudges_14 : decode cX9_livingJudges 14 = .ok (.getfield 35, 3) := dq_180 (hz_wg wX9_livingJudges_0 (j := 14) (n := 180) rfl) (hz_wg wX9_livingJudges_0 (j := 15) (n := 0) rfl) (hz_wg wX9_livingJudges_0 (j := 16) (n := 35) rfl) rfl
theorem dX9_livingJudges_17 : decode cX9_livingJudges 17 = .ok (.iload_n 2, 1) := dq_28 (hz_wg wX9_livingJudges_0 (j := 17) (n := 28) rfl)
theorem dX9_livingJudges_18 : decode cX9_livingJudges 18 = .ok (.aaload, 1) := dq_50 (hz_wg wX9_livingJudges_0 (j := 18) (n := 50) rfl)
theorem dX9_livingJudges_19 : decode cX9_livingJudges 19 = .ok (.getfield 152, 3) := dq_180 (hz_wg wX9_livingJudges_0 (j := 19) (n := 180) rfl) (hz_wg wX9_livingJudges_0 (j := 20) (n := 0) rfl) (hz_wg wX9_livingJudges_0 (j := 21) (n := 152) rfl) rfl
theorem dX9_livingJudges_22 : decode cX9_livingJudges 22 = .ok (.ifCond .eq 19, 3) := dq_153 (hz_wg wX9_livingJudges_0 (j := 22) (n := 153) rfl) (hz_wg wX9_livingJudges_0 (j := 23) (n := 0) rfl) (hz_wg wX9_livingJudges_0 (j := 24) (n := 19) rfl) (by decide)
theorem dX9_livingJudges_25 : decode cX9_livingJudges 25 = .ok (.aload_n 0, 1) := dq_42 (hz_wg wX9_livingJudges_0 (j := 25) (n := 42) rfl)
theorem dX9_livingJudges_26 : decode cX9_livingJudges 26 = .ok (.getfield 35, 3) := dq_180 (hz_wg wX9_livingJudges_0 (j := 26) (n := 180) rfl) (hz_wg wX9_livingJudges_0 (j := 27) (n := 0) rfl) (hz_wg wX9_livingJudges_0 (j := 28) (n := 35) rfl) rfl
theorem dX9_livingJudges_29 : decode cX9_livingJudges 29 = .ok (.iload_n 2, 1) := dq_28 (hz_wg wX9_livingJudges_0 (j := 29) (n := 28) rfl)
theorem dX9_livingJudges_30 : decode cX9_livingJudges 30 = .ok (.aaload, 1) := dq_50 (hz_wg wX9_livingJudges_0 (j := 30) (n := 50) rfl)
theorem dX9_livingJudges_31 : decode cX9_livingJudges 31 = .ok (.getfield 148, 3) := dq_180 (hz_wg wX9_livingJudges_0 (j := 31) (n := 180) rfl) (hz_wg wX9_livingJudges_0 (j := 32) (n := 0) rfl) (hz_wg wX9_livingJudges_0 (j := 33) (n := 148) rfl) rfl
theorem dX9_livingJudges_34 : decode cX9_livingJudges 34 = .ok (.ifCond .ne 7, 3) := dq_154 (hz_wg wX9_livingJudges_0 (j := 34) (n := 154) rfl) (hz_wg wX9_livingJudges_0 (j := 35) (n := 0) rfl) (hz_wg wX9_livingJudges_0 (j := 36) (n := 7) rfl) (by decide)
theorem dX9_livingJudges_37 : decode cX9_livingJudges 37 = .ok (.iconst 1, 1) := dq_4 (hz_wg wX9_livingJudges_0 (j := 37) (n := 4) rfl)
theorem dX9_livingJudges_38 : decode cX9_livingJudges 38 = .ok (.goto 4, 3) := dq_167 (hz_wg wX9_livingJudges_0 (j := 38) (n := 167) rfl) (hz_wg wX9_livingJudges_0 (j := 39) (n := 0) rfl) (hz_wg wX9_livingJudges_0 (j := 40) (n := 4) rfl) (by decide)
theorem dX9_livingJudges_41 : decode cX9_livingJudges 41 = .ok (.iconst 0, 1) := dq_3 (hz_wg wX9_livingJudges_0 (j := 41) (n := 3) rfl)
theorem dX9_livingJudges_42 : decode cX9_livingJudges 42 = .ok (.iadd, 1) := dq_96 (hz_wg wX9_livingJudges_0 (j := 42) (n := 96) rfl)
theorem dX9_livingJudges_43 : decode cX9_livingJudges 43 = .ok (.istore_n 1, 1) := dq_60 (hz_wg wX9_livingJudges_0 (j := 43) (n := 60) rfl)
theorem dX9_livingJudges_44 : decode cX9_livingJudges 44 = .ok (.iinc 2 1, 3) := dq_132 (hz_wg wX9_livingJudges_0 (j := 44) (n := 132) rfl) (hz_wg wX9_livingJudges_0 (j := 45) (n := 2) rfl) (hz_wg wX9_livingJudges_0 (j := 46) (n := 1) rfl) (by decide)
theorem dX9_livingJudges_47 : decode cX9_livingJudges 47 = .ok (.goto (-43), 3) := dq_167 (hz_wg wX9_livingJudges_0 (j := 47) (n := 167) rfl) (hz_wg wX9_livingJudges_0 (j := 48) (n := 255) rfl) (hz_wg wX9_livingJudges_0 (j := 49) (n := 213) rfl) (by decide)
theorem dX9_livingJudges_50 : decode cX9_livingJudges 50 = .ok (.iload_n 1, 1) := dq_27 (hz_wg wX9_livingJudges_0 (j := 50) (n := 27) rfl)
theorem dX9_livingJudges_51 : decode cX9_livingJudges 51 = .ok (.ireturn, 1) := dq_172 (hz_wg wX9_livingJudges_0 (j := 51) (n := 172) rfl)
def wLX9_sumOfSplit_0 : List Nat := [3, 62, 3, 54, 4, 21, 4, 42, 180, 0, 181, 162, 0, 69, 42, 180, 0, 48, 21, 4, 50, 58, 5, 25, 5, 180, 0, 223, 43, 180, 0, 223, 166, 0, 42, 25, 5, 180, 0, 212, 43, 180, 0, 212, 166, 0, 30, 25, 5, 180, 0, 193, 43, 180, 0, 193, 44, 180, 0, 119, 5, 46, 100, 161]
def wLX9_sumOfSplit_1 : List Nat := [0, 11, 29, 25, 5, 180, 0, 187, 96, 62, 132, 4, 1, 167, 255, 184, 29, 172]
theorem wX9_sumOfSplit_0 : (cX9_sumOfSplit.data.toList.map UInt8.toNat).drop 0 = wLX9_sumOfSplit_0 ++ (wLX9_sumOfSplit_1 ++ ([])) := by decide +kernel
theorem wX9_sumOfSplit_1 : (cX9_sumOfSplit.data.toList.map UInt8.toNat).drop 64 = wLX9_sumOfSplit_1 ++ ([]) := hz_wn wX9_sumOfSplit_0 rfl
theorem dX9_sumOfSplit_0 : decode cX9_sumOfSplit 0 = .ok (.iconst 0, 1) := dq_3 (hz_wg wX9_sumOfSplit_0 (j := 0) (n := 3) rfl)
theorem dX9_sumOfSplit_1 : decode cX9_sumOfSplit 1 = .ok (.istore_n 3, 1) := dq_62 (hz_wg wX9_sumOfSplit_0 (j := 1) (n := 62) rfl)
theorem dX9_sumOfSplit_2 : decode cX9_sumOfSplit 2 = .ok (.iconst 0, 1) := dq_3 (hz_wg wX9_sumOfSplit_0 (j := 2) (n := 3) rfl)
theorem dX9_sumOfSplit_3 : decode cX9_sumOfSplit 3 = .ok (.istore 4, 2) := dq_54 (hz_wg wX9_sumOfSplit_0 (j := 3) (n := 54) rfl) (hz_wg wX9_sumOfSplit_0 (j := 4) (n := 4) rfl)
theorem dX9_sumOfSplit_5 : decode cX9_sumOfSplit 5 = .ok (.iload 4, 2) := dq_21 (hz_wg wX9_sumOfSplit_0 (j := 5) (n := 21) rfl) (hz_wg wX9_sumOfSplit_0 (j := 6) (n := 4) rfl)
theorem dX9_sumOfSplit_7 : decode cX9_sumOfSplit 7 = .ok (.aload_n 0, 1) := dq_42 (hz_wg wX9_sumOfSplit_0 (j := 7) (n := 42) rfl)
theorem dX9_sumOfSplit_8 : decode cX9_sumOfSplit 8 = .ok (.getfield 181, 3) := dq_180 (hz_wg wX9_sumOfSplit_0 (j := 8) (n := 180) rfl) (hz_wg wX9_sumOfSplit_0 (j := 9) (n := 0) rfl) (hz_wg wX9_sumOfSplit_0 (j := 10) (n := 181) rfl) rfl
theorem dX9_sumOfSplit_11 : decode cX9_sumOfSplit 11 = .ok (.if_icmp .ge 69, 3) := dq_162 (hz_wg wX9_sumOfSplit_0 (j := 11) (n := 162) rfl) (hz_wg wX9_sumOfSplit_0 (j := 12) (n := 0) rfl) (hz_wg wX9_sumOfSplit_0 (j := 13) (n := 69) rfl) (by decide)
theorem dX9_sumOfSplit_14 : decode cX9_sumOfSplit 14 = .ok (.aload_n 0, 1) := dq_42 (hz_wg wX9_sumOfSplit_0 (j := 14) (n := 42) rfl)
theorem dX9_sumOfSplit_15 : decode cX9_sumOfSplit 15 = .ok (.getfield 48, 3) := dq_180 (hz_wg wX9_sumOfSplit_0 (j := 15) (n := 180) rfl) (hz_wg wX9_sumOfSplit_0 (j := 16) (n := 0) rfl) (hz_wg wX9_sumOfSplit_0 (j := 17) (n := 48) rfl) rfl
theorem dX9_sumOfSplit_18 : decode cX9_sumOfSplit 18 = .ok (.iload 4, 2) := dq_21 (hz_wg wX9_sumOfSplit_0 (j := 18) (n := 21) rfl) (hz_wg wX9_sumOfSplit_0 (j := 19) (n := 4) rfl)
theorem dX9_sumOfSplit_20 : decode cX9_sumOfSplit 20 = .ok (.aaload, 1) := dq_50 (hz_wg wX9_sumOfSplit_0 (j := 20) (n := 50) rfl)
theorem dX9_sumOfSplit_21 : decode cX9_sumOfSplit 21 = .ok (.astore 5, 2) := dq_58 (hz_wg wX9_sumOfSplit_0 (j := 21) (n := 58) rfl) (hz_wg wX9_sumOfSplit_0 (j := 22) (n := 5) rfl)
theorem dX9_sumOfSplit_23 : decode cX9_sumOfSplit 23 = .ok (.aload 5, 2) := dq_25 (hz_wg wX9_sumOfSplit_0 (j := 23) (n := 25) rfl) (hz_wg wX9_sumOfSplit_0 (j := 24) (n := 5) rfl)
theorem dX9_sumOfSplit_25 : decode cX9_sumOfSplit 25 = .ok (.getfield 223, 3) := dq_180 (hz_wg wX9_sumOfSplit_0 (j := 25) (n := 180) rfl) (hz_wg wX9_sumOfSplit_0 (j := 26) (n := 0) rfl) (hz_wg wX9_sumOfSplit_0 (j := 27) (n := 223) rfl) rfl
theorem dX9_sumOfSplit_28 : decode cX9_sumOfSplit 28 = .ok (.aload_n 1, 1) := dq_43 (hz_wg wX9_sumOfSplit_0 (j := 28) (n := 43) rfl)
theorem dX9_sumOfSplit_29 : decode cX9_sumOfSplit 29 = .ok (.getfield 223, 3) := dq_180 (hz_wg wX9_sumOfSplit_0 (j := 29) (n := 180) rfl) (hz_wg wX9_sumOfSplit_0 (j := 30) (n := 0) rfl) (hz_wg wX9_sumOfSplit_0 (j := 31) (n := 223) rfl) rfl
theorem dX9_sumOfSplit_32 : decode cX9_sumOfSplit 32 = .ok (.if_acmp .ne 42, 3) := dq_166 (hz_wg wX9_sumOfSplit_0 (j := 32) (n := 166) rfl) (hz_wg wX9_sumOfSplit_0 (j := 33) (n := 0) rfl) (hz_wg wX9_sumOfSplit_0 (j := 34) (n := 42) rfl) (by decide)
theorem dX9_sumOfSplit_35 : decode cX9_sumOfSplit 35 = .ok (.aload 5, 2) := dq_25 (hz_wg wX9_sumOfSplit_0 (j := 35) (n := 25) rfl) (hz_wg wX9_sumOfSplit_0 (j := 36) (n := 5) rfl)
theorem dX9_sumOfSplit_37 : decode cX9_sumOfSplit 37 = .ok (.getfield 212, 3) := dq_180 (hz_wg wX9_sumOfSplit_0 (j := 37) (n := 180) rfl) (hz_wg wX9_sumOfSplit_0 (j := 38) (n := 0) rfl) (hz_wg wX9_sumOfSplit_0 (j := 39) (n := 212) rfl) rfl
theorem dX9_sumOfSplit_40 : decode cX9_sumOfSplit 40 = .ok (.aload_n 1, 1) := dq_43 (hz_wg wX9_sumOfSplit_0 (j := 40) (n := 43) rfl)
theorem dX9_sumOfSplit_41 : decode cX9_sumOfSplit 41 = .ok (.getfield 212, 3) := dq_180 (hz_wg wX9_sumOfSplit_0 (j := 41) (n := 180) rfl) (hz_wg wX9_sumOfSplit_0 (j := 42) (n := 0) rfl) (hz_wg wX9_sumOfSplit_0 (j := 43) (n := 212) rfl) rfl
theorem dX9_sumOfSplit_44 : decode cX9_sumOfSplit 44 = .ok (.if_acmp .ne 30, 3) := dq_166 (hz_wg wX9_sumOfSplit_0 (j := 44) (n := 166) rfl) (hz_wg wX9_sumOfSplit_0 (j := 45) (n := 0) rfl) (hz_wg wX9_sumOfSplit_0 (j := 46) (n := 30) rfl) (by decide)
theorem dX9_sumOfSplit_47 : decode cX9_sumOfSplit 47 = .ok (.aload 5, 2) := dq_25 (hz_wg wX9_sumOfSplit_0 (j := 47) (n := 25) rfl) (hz_wg wX9_sumOfSplit_0 (j := 48) (n := 5) rfl)
theorem dX9_sumOfSplit_49 : decode cX9_sumOfSplit 49 = .ok (.getfield 193, 3) := dq_180 (hz_wg wX9_sumOfSplit_0 (j := 49) (n := 180) rfl) (hz_wg wX9_sumOfSplit_0 (j := 50) (n := 0) rfl) (hz_wg wX9_sumOfSplit_0 (j := 51) (n := 193) rfl) rfl
theorem dX9_sumOfSplit_52 : decode cX9_sumOfSplit 52 = .ok (.aload_n 1, 1) := dq_43 (hz_wg wX9_sumOfSplit_0 (j := 52) (n := 43) rfl)
theorem dX9_sumOfSplit_53 : decode cX9_sumOfSplit 53 = .ok (.getfield 193, 3) := dq_180 (hz_wg wX9_sumOfSplit_0 (j := 53) (n := 180) rfl) (hz_wg wX9_sumOfSplit_0 (j := 54) (n := 0) rfl) (hz_wg wX9_sumOfSplit_0 (j := 55) (n := 193) rfl) rfl
theorem dX9_sumOfSplit_56 : decode cX9_sumOfSplit 56 = .ok (.aload_n 2, 1) := dq_44 (hz_wg wX9_sumOfSplit_0 (j := 56) (n := 44) rfl)
theorem dX9_sumOfSplit_57 : decode cX9_sumOfSplit 57 = .ok (.getfield 119, 3) := dq_180 (hz_wg wX9_sumOfSplit_0 (j := 57) (n := 180) rfl) (hz_wg wX9_sumOfSplit_0 (j := 58) (n := 0) rfl) (hz_wg wX9_sumOfSplit_0 (j := 59) (n := 119) rfl) rfl
theorem dX9_sumOfSplit_60 : decode cX9_sumOfSplit 60 = .ok (.iconst 2, 1) := dq_5 (hz_wg wX9_sumOfSplit_0 (j := 60) (n := 5) rfl)
theorem dX9_sumOfSplit_61 : decode cX9_sumOfSplit 61 = .ok (.iaload, 1) := dq_46 (hz_wg wX9_sumOfSplit_0 (j := 61) (n := 46) rfl)
theorem dX9_sumOfSplit_62 : decode cX9_sumOfSplit 62 = .ok (.isub, 1) := dq_100 (hz_wg wX9_sumOfSplit_0 (j := 62) (n := 100) rfl)
theorem dX9_sumOfSplit_63 : decode cX9_sumOfSplit 63 = .ok (.if_icmp .lt 11, 3) := dq_161 (hz_wg wX9_sumOfSplit_0 (j := 63) (n := 161) rfl) (hz_wg wX9_sumOfSplit_1 (j := 0) (n := 0) rfl) (hz_wg wX9_sumOfSplit_1 (j := 1) (n := 11) rfl) (by decide)
theorem dX9_sumOfSplit_66 : decode cX9_sumOfSplit 66 = .ok (.iload_n 3, 1) := dq_29 (hz_wg wX9_sumOfSplit_1 (j := 2) (n := 29) rfl)
theorem dX9_sumOfSplit_67 : decode cX9_sumOfSplit 67 = .ok (.aload 5, 2) := dq_25 (hz_wg wX9_sumOfSplit_1 (j := 3) (n := 25) rfl) (hz_wg wX9_sumOfSplit_1 (j := 4) (n := 5) rfl)
theorem dX9_sumOfSplit_69 : decode cX9_sumOfSplit 69 = .ok (.getfield 187, 3) := dq_180 (hz_wg wX9_sumOfSplit_1 (j := 5) (n := 180) rfl) (hz_wg wX9_sumOfSplit_1 (j := 6) (n := 0) rfl) (hz_wg wX9_sumOfSplit_1 (j := 7) (n := 187) rfl) rfl
theorem dX9_sumOfSplit_72 : decode cX9_sumOfSplit 72 = .ok (.iadd, 1) := dq_96 (hz_wg wX9_sumOfSplit_1 (j := 8) (n := 96) rfl)
theorem dX9_sumOfSplit_73 : decode cX9_sumOfSplit 73 = .ok (.istore_n 3, 1) := dq_62 (hz_wg wX9_sumOfSplit_1 (j := 9) (n := 62) rfl)
theorem dX9_sumOfSplit_74 : decode cX9_sumOfSplit 74 = .ok (.iinc 4 1, 3) := dq_132 (hz_wg wX9_sumOfSplit_1 (j := 10) (n := 132) rfl) (hz_wg wX9_sumOfSplit_1 (j := 11) (n := 4) rfl) (hz_wg wX9_sumOfSplit_1 (j := 12) (n := 1) rfl) (by decide)
theorem dX9_sumOfSplit_77 : decode cX9_sumOfSplit 77 = .ok (.goto (-72), 3) := dq_167 (hz_wg wX9_sumOfSplit_1 (j := 13) (n := 167) rfl) (hz_wg wX9_sumOfSplit_1 (j := 14) (n := 255) rfl) (hz_wg wX9_sumOfSplit_1 (j := 15) (n := 184) rfl) (by decide)
theorem dX9_sumOfSplit_80 : decode cX9_sumOfSplit 80 = .ok (.iload_n 3, 1) := dq_29 (hz_wg wX9_sumOfSplit_1 (j := 16) (n := 29) rfl)
theorem dX9_sumOfSplit_81 : decode cX9_sumOfSplit 81 = .ok (.ireturn, 1) := dq_172 (hz_wg wX9_sumOfSplit_1 (j := 17) (n := 172) rfl)
def wLX9_openInstalments_0 : List Nat := [3, 61, 3, 62, 29, 42, 180, 0, 181, 162, 0, 54, 42, 180, 0, 48, 29, 50, 180, 0, 212, 43, 166, 0, 35, 42, 180, 0, 48, 29, 50, 42, 180, 0, 58, 42, 180, 0, 94, 182, 1, 18, 153, 0, 15, 28, 42, 180, 0, 48, 29, 50, 180, 1, 15, 96, 61, 132, 3, 1, 167, 255, 200, 28]
def wLX9_openInstalments_1 : List Nat := [172]
theorem wX9_openInstalments_0 : (cX9_openInstalments.data.toList.map UInt8.toNat).drop 0 = wLX9_openInstalments_0 ++ (wLX9_openInstalments_1 ++ ([])) := by decide +kernel
theorem wX9_openInstalments_1 : (cX9_openInstalments.data.toList.map UInt8.toNat).drop 64 = wLX9_openInstalments_1 ++ ([]) := hz_wn wX9_openInstalments_0 rfl
theorem dX9_openInstalments_0 : decode cX9_openInstalments 0 = .ok (.iconst 0, 1) := dq_3 (hz_wg wX9_openInstalments_0 (j := 0) (n := 3) rfl)
theorem dX9_openInstalments_1 : decode cX9_openInstalments 1 = .ok (.istore_n 2, 1) := dq_61 (hz_wg wX9_openInstalments_0 (j := 1) (n := 61) rfl)
theorem dX9_openInstalments_2 : decode cX9_openInstalments 2 = .ok (.iconst 0, 1) := dq_3 (hz_wg wX9_openInstalments_0 (j := 2) (n := 3) rfl)
theorem dX9_openInstalments_3 : decode cX9_openInstalments 3 = .ok (.istore_n 3, 1) := dq_62 (hz_wg wX9_openInstalments_0 (j := 3) (n := 62) rfl)
theorem dX9_openInstalments_4 : decode cX9_openInstalments 4 = .ok (.iload_n 3, 1) := dq_29 (hz_wg wX9_openInstalments_0 (j := 4) (n := 29) rfl)
theorem dX9_openInstalments_5 : decode cX9_openInstalments 5 = .ok (.aload_n 0, 1) := dq_42 (hz_wg wX9_openInstalments_0 (j := 5) (n := 42) rfl)
theorem dX9_openInstalments_6 : decode cX9_openInstalments 6 = .ok (.getfield 181, 3) := dq_180 (hz_wg wX9_openInstalments_0 (j := 6) (n := 180) rfl) (hz_wg wX9_openInstalments_0 (j := 7) (n := 0) rfl) (hz_wg wX9_openInstalments_0 (j := 8) (n := 181) rfl) rfl
theorem dX9_openInstalments_9 : decode cX9_openInstalments 9 = .ok (.if_icmp .ge 54, 3) := dq_162 (hz_wg wX9_openInstalments_0 (j := 9) (n := 162) rfl) (hz_wg wX9_openInstalments_0 (j := 10) (n := 0) rfl) (hz_wg wX9_openInstalments_0 (j := 11) (n := 54) rfl) (by decide)
theorem dX9_openInstalments_12 : decode cX9_openInstalments 12 = .ok (.aload_n 0, 1) := dq_42 (hz_wg wX9_openInstalments_0 (j := 12) (n := 42) rfl)
theorem dX9_openInstalments_13 : decode cX9_openInstalments 13 = .ok (.getfield 48, 3) := dq_180 (hz_wg wX9_openInstalments_0 (j := 13) (n := 180) rfl) (hz_wg wX9_openInstalments_0 (j := 14) (n := 0) rfl) (hz_wg wX9_openInstalments_0 (j := 15) (n := 48) rfl) rfl
theorem dX9_openInstalments_16 : decode cX9_openInstalments 16 = .ok (.iload_n 3, 1) := dq_29 (hz_wg wX9_openInstalments_0 (j := 16) (n := 29) rfl)
theorem dX9_openInstalments_17 : decode cX9_openInstalments 17 = .ok (.aaload, 1) := dq_50 (hz_wg wX9_openInstalments_0 (j := 17) (n := 50) rfl)
theorem dX9_openInstalments_18 : decode cX9_openInstalments 18 = .ok (.getfield 212, 3) := dq_180 (hz_wg wX9_openInstalments_0 (j := 18) (n := 180) rfl) (hz_wg wX9_openInstalments_0 (j := 19) (n := 0) rfl) (hz_wg wX9_openInstalments_0 (j := 20) (n := 212) rfl) rfl
theorem dX9_openInstalments_21 : decode cX9_openInstalments 21 = .ok (.aload_n 1, 1) := dq_43 (hz_wg wX9_openInstalments_0 (j := 21) (n := 43) rfl)
theorem dX9_openInstalments_22 : decode cX9_openInstalments 22 = .ok (.if_acmp .ne 35, 3) := dq_166 (hz_wg wX9_openInstalments_0 (j := 22) (n := 166) rfl) (hz_wg wX9_openInstalments_0 (j := 23) (n := 0) rfl) (hz_wg wX9_openInstalments_0 (j := 24) (n := 35) rfl) (by decide)
theorem dX9_openInstalments_25 : decode cX9_openInstalments 25 = .ok (.aload_n 0, 1) := dq_42 (hz_wg wX9_openInstalments_0 (j := 25) (n := 42) rfl)
theorem dX9_openInstalments_26 : decode cX9_openInstalments 26 = .ok (.getfield 48, 3) := dq_180 (hz_wg wX9_openInstalments_0 (j := 26) (n := 180) rfl) (hz_wg wX9_openInstalments_0 (j := 27) (n := 0) rfl) (hz_wg wX9_openInstalments_0 (j := 28) (n := 48) rfl) rfl
theorem dX9_openInstalments_29 : decode cX9_openInstalments 29 = .ok (.iload_n 3, 1) := dq_29 (hz_wg wX9_openInstalments_0 (j := 29) (n := 29) rfl)
theorem dX9_openInstalments_30 : decode cX9_openInstalments 30 = .ok (.aaload, 1) := dq_50 (hz_wg wX9_openInstalments_0 (j := 30) (n := 50) rfl)
theorem dX9_openInstalments_31 : decode cX9_openInstalments 31 = .ok (.aload_n 0, 1) := dq_42 (hz_wg wX9_openInstalments_0 (j := 31) (n := 42) rfl)
theorem dX9_openInstalments_32 : decode cX9_openInstalments 32 = .ok (.getfield 58, 3) := dq_180 (hz_wg wX9_openInstalments_0 (j := 32) (n := 180) rfl) (hz_wg wX9_openInstalments_0 (j := 33) (n := 0) rfl) (hz_wg wX9_openInstalments_0 (j := 34) (n := 58) rfl) rfl
theorem dX9_openInstalments_35 : decode cX9_openInstalments 35 = .ok (.aload_n 0, 1) := dq_42 (hz_wg wX9_openInstalments_0 (j := 35) (n := 42) rfl)
theorem dX9_openInstalments_36 : decode cX9_openInstalments 36 = .ok (.getfield 94, 3) := dq_180 (hz_wg wX9_openInstalments_0 (j := 36) (n := 180) rfl) (hz_wg wX9_openInstalments_0 (j := 37) (n := 0) rfl) (hz_wg wX9_openInstalments_0 (j := 38) (n := 94) rfl) rfl
theorem dX9_openInstalments_39 : decode cX9_openInstalments 39 = .ok (.invokevirtual 274, 3) := dq_182 (hz_wg wX9_openInstalments_0 (j := 39) (n := 182) rfl) (hz_wg wX9_openInstalments_0 (j := 40) (n := 1) rfl) (hz_wg wX9_openInstalments_0 (j := 41) (n := 18) rfl) rfl
theorem dX9_openInstalments_42 : decode cX9_openInstalments 42 = .ok (.ifCond .eq 15, 3) := dq_153 (hz_wg wX9_openInstalments_0 (j := 42) (n := 153) rfl) (hz_wg wX9_openInstalments_0 (j := 43) (n := 0) rfl) (hz_wg wX9_openInstalments_0 (j := 44) (n := 15) rfl) (by decide)
theorem dX9_openInstalments_45 : decode cX9_openInstalments 45 = .ok (.iload_n 2, 1) := dq_28 (hz_wg wX9_openInstalments_0 (j := 45) (n := 28) rfl)
theorem dX9_openInstalments_46 : decode cX9_openInstalments 46 = .ok (.aload_n 0, 1) := dq_42 (hz_wg wX9_openInstalments_0 (j := 46) (n := 42) rfl)
theorem dX9_openInstalments_47 : decode cX9_openInstalments 47 = .ok (.getfield 48, 3) := dq_180 (hz_wg wX9_openInstalments_0 (j := 47) (n := 180) rfl) (hz_wg wX9_openInstalments_0 (j := 48) (n := 0) rfl) (hz_wg wX9_openInstalments_0 (j := 49) (n := 48) rfl) rfl
theorem dX9_openInstalments_50 : decode cX9_openInstalments 50 = .ok (.iload_n 3, 1) := dq_29 (hz_wg wX9_openInstalments_0 (j := 50) (n := 29) rfl)
theorem dX9_openInstalments_51 : decode cX9_openInstalments 51 = .ok (.aaload, 1) := dq_50 (hz_wg wX9_openInstalments_0 (j := 51) (n := 50) rfl)
theorem dX9_openInstalments_52 : decode cX9_openInstalments 52 = .ok (.getfield 271, 3) := dq_180 (hz_wg wX9_openInstalments_0 (j := 52) (n := 180) rfl) (hz_wg wX9_openInstalments_0 (j := 53) (n := 1) rfl) (hz_wg wX9_openInstalments_0 (j := 54) (n := 15) rfl) rfl
theorem dX9_openInstalments_55 : decode cX9_openInstalments 55 = .ok (.iadd, 1) := dq_96 (hz_wg wX9_openInstalments_0 (j := 55) (n := 96) rfl)
theorem dX9_openInstalments_56 : decode cX9_openInstalments 56 = .ok (.istore_n 2, 1) := dq_61 (hz_wg wX9_openInstalments_0 (j := 56) (n := 61) rfl)
theorem dX9_openInstalments_57 : decode cX9_openInstalments 57 = .ok (.iinc 3 1, 3) := dq_132 (hz_wg wX9_openInstalments_0 (j := 57) (n := 132) rfl) (hz_wg wX9_openInstalments_0 (j := 58) (n := 3) rfl) (hz_wg wX9_openInstalments_0 (j := 59) (n := 1) rfl) (by decide)
theorem dX9_openInstalments_60 : decode cX9_openInstalments 60 = .ok (.goto (-56), 3) := dq_167 (hz_wg wX9_openInstalments_0 (j := 60) (n := 167) rfl) (hz_wg wX9_openInstalments_0 (j := 61) (n := 255) rfl) (hz_wg wX9_openInstalments_0 (j := 62) (n := 200) rfl) (by decide)
theorem dX9_openInstalments_63 : decode cX9_openInstalments 63 = .ok (.iload_n 2, 1) := dq_28 (hz_wg wX9_openInstalments_0 (j := 63) (n := 28) rfl)
theorem dX9_openInstalments_64 : decode cX9_openInstalments 64 = .ok (.ireturn, 1) := dq_172 (hz_wg wX9_openInstalments_1 (j := 0) (n := 172) rfl)