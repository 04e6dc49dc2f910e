theorem dX6_refuse_0 : decode cX6_refuse 0 = .ok (.aload_n 0, 1) := by decide +kernel
theorem dX6_refuse_1 : decode cX6_refuse 1 = .ok (.iconst 1, 1) := by decide +kernel
theorem dX6_refuse_2 : decode cX6_refuse 2 = .ok (.bipush 8, 2) := by decide +kernel
theorem dX6_refuse_4 : decode cX6_refuse 4 = .ok (.iload_n 1, 1) := by decide +kernel
theorem dX6_refuse_5 : decode cX6_refuse 5 = .ok (.imul, 1) := by decide +kernel
theorem dX6_refuse_6 : decode cX6_refuse 6 = .ok (.iadd, 1) := by decide +kernel
theorem dX6_refuse_7 : decode cX6_refuse 7 = .ok (.iload_n 2, 1) := by decide +kernel
theorem dX6_refuse_8 : decode cX6_refuse 8 = .ok (.iadd, 1) := by decide +kernel
theorem dX6_refuse_9 : decode cX6_refuse 9 = .ok (.putfield 22, 3) := by decide +kernel
theorem dX6_refuse_12 : decode cX6_refuse 12 = .ok (.iconst 0, 1) := by decide +kernel
theorem dX6_refuse_13 : decode cX6_refuse 13 = .ok (.ireturn, 1) := by decide +kernel
theorem dX6_tellOnce_0 : decode cX6_tellOnce 0 = .ok (.iconst 1, 1) := by decide +kernel
theorem dX6_tellOnce_1 : decode cX6_tellOnce 1 = .ok (.iload_n 1, 1) := by decide +kernel
theorem dX6_tellOnce_2 : decode cX6_tellOnce 2 = .ok (.ishl, 1) := by decide +kernel
theorem dX6_tellOnce_3 : decode cX6_tellOnce 3 = .ok (.istore_n 3, 1) := by decide +kernel
theorem dX6_tellOnce_4 : decode cX6_tellOnce 4 = .ok (.aload_n 0, 1) := by decide +kernel
theorem dX6_tellOnce_5 : decode cX6_tellOnce 5 = .ok (.getfield 25, 3) := by decide +kernel
theorem dX6_tellOnce_8 : decode cX6_tellOnce 8 = .ok (.iload_n 3, 1) := by decide +kernel
theorem dX6_tellOnce_9 : decode cX6_tellOnce 9 = .ok (.iand, 1) := by decide +kernel
theorem dX6_tellOnce_10 : decode cX6_tellOnce 10 = .ok (.ifCond .eq 10, 3) := by decide +kernel
theorem dX6_tellOnce_13 : decode cX6_tellOnce 13 = .ok (.aload_n 0, 1) := by decide +kernel
theorem dX6_tellOnce_14 : decode cX6_tellOnce 14 = .ok (.iload_n 2, 1) := by decide +kernel
theorem dX6_tellOnce_15 : decode cX6_tellOnce 15 = .ok (.iconst 2, 1) := by decide +kernel
theorem dX6_tellOnce_16 : decode cX6_tellOnce 16 = .ok (.invokevirtual 45, 3) := by decide +kernel
theorem dX6_tellOnce_19 : decode cX6_tellOnce 19 = .ok (.ireturn, 1) := by decide +kernel
theorem dX6_tellOnce_20 : decode cX6_tellOnce 20 = .ok (.aload_n 0, 1) := by decide +kernel
theorem dX6_tellOnce_21 : decode cX6_tellOnce 21 = .ok (.dup, 1) := by decide +kernel
theorem dX6_tellOnce_22 : decode cX6_tellOnce 22 = .ok (.getfield 25, 3) := by decide +kernel
theorem dX6_tellOnce_25 : decode cX6_tellOnce 25 = .ok (.iload_n 3, 1) := by decide +kernel
theorem dX6_tellOnce_26 : decode cX6_tellOnce 26 = .ok (.ior, 1) := by decide +kernel
theorem dX6_tellOnce_27 : decode cX6_tellOnce 27 = .ok (.putfield 25, 3) := by decide +kernel
theorem dX6_tellOnce_30 : decode cX6_tellOnce 30 = .ok (.iconst 1, 1) := by decide +kernel
theorem dX6_tellOnce_31 : decode cX6_tellOnce 31 = .ok (.ireturn, 1) := by decide +kernel
def wLX6_isDigit_0 : List Nat := [27, 42, 180, 0, 15, 162, 0, 29, 42, 180, 0, 9, 27, 51, 16, 48, 161, 0, 18, 42, 180, 0, 9, 27, 51, 16, 57, 163, 0, 7, 4, 167, 0, 4, 3, 172]
theorem wX6_isDigit_0 : (cX6_isDigit.data.toList.map UInt8.toNat).drop 0 = wLX6_isDigit_0 ++ ([]) := by decide +kernel
theorem dX6_isDigit_0 : decode cX6_isDigit 0 = .ok (.iload_n 1, 1) := dq_27 (hz_wg wX6_isDigit_0 (j := 0) (n := 27) rfl)
theorem dX6_isDigit_1 : decode cX6_isDigit 1 = .ok (.aload_n 0, 1) := dq_42 (hz_wg wX6_isDigit_0 (j := 1) (n := 42) rfl)
theorem dX6_isDigit_2 : decode cX6_isDigit 2 = .ok (.getfield 15, 3) := dq_180 (hz_wg wX6_isDigit_0 (j := 2) (n := 180) rfl) (hz_wg wX6_isDigit_0 (j := 3) (n := 0) rfl) (hz_wg wX6_isDigit_0 (j := 4) (n := 15) rfl) rfl
theorem dX6_isDigit_5 : decode cX6_isDigit 5 = .ok (.if_icmp .ge 29, 3) := dq_162 (hz_wg wX6_isDigit_0 (j := 5) (n := 162) rfl) (hz_wg wX6_isDigit_0 (j := 6) (n := 0) rfl) (hz_wg wX6_isDigit_0 (j := 7) (n := 29) rfl) (by decide)
theorem dX6_isDigit_8 : decode cX6_isDigit 8 = .ok (.aload_n 0, 1) := dq_42 (hz_wg wX6_isDigit_0 (j := 8) (n := 42) rfl)
theorem dX6_isDigit_9 : decode cX6_isDigit 9 = .ok (.getfield 9, 3) := dq_180 (hz_wg wX6_isDigit_0 (j := 9) (n := 180) rfl) (hz_wg wX6_isDigit_0 (j := 10) (n := 0) rfl) (hz_wg wX6_isDigit_0 (j := 11) (n := 9) rfl) rfl
theorem dX6_isDigit_12 : decode cX6_isDigit 12 = .ok (.iload_n 1, 1) := dq_27 (hz_wg wX6_isDigit_0 (j := 12) (n := 27) rfl)
theorem dX6_isDigit_13 : decode cX6_isDigit 13 = .ok (.baload, 1) := dq_51 (hz_wg wX6_isDigit_0 (j := 13) (n := 51) rfl)
theorem dX6_isDigit_14 : decode cX6_isDigit 14 = .ok (.bipush 48, 2) := dq_16 (hz_wg wX6_isDigit_0 (j := 14) (n := 16) rfl) (hz_wg wX6_isDigit_0 (j := 15) (n := 48) rfl) (by decide)
theorem dX6_isDigit_16 : decode cX6_isDigit 16 = .ok (.if_icmp .lt 18, 3) := dq_161 (hz_wg wX6_isDigit_0 (j := 16) (n := 161) rfl) (hz_wg wX6_isDigit_0 (j := 17) (n := 0) rfl) (hz_wg wX6_isDigit_0 (j := 18) (n := 18) rfl) (by decide)
theorem dX6_isDigit_19 : decode cX6_isDigit 19 = .ok (.aload_n 0, 1) := dq_42 (hz_wg wX6_isDigit_0 (j := 19) (n := 42) rfl)
theorem dX6_isDigit_20 : decode cX6_isDigit 20 = .ok (.getfield 9, 3) := dq_180 (hz_wg wX6_isDigit_0 (j := 20) (n := 180) rfl) (hz_wg wX6_isDigit_0 (j := 21) (n := 0) rfl) (hz_wg wX6_isDigit_0 (j := 22) (n := 9) rfl) rfl
theorem dX6_isDigit_23 : decode cX6_isDigit 23 = .ok (.iload_n 1, 1) := dq_27 (hz_wg wX6_isDigit_0 (j := 23) (n := 27) rfl)
theorem dX6_isDigit_24 : decode cX6_isDigit 24 = .ok (.baload, 1) := dq_51 (hz_wg wX6_isDigit_0 (j := 24) (n := 51) rfl)
theorem dX6_isDigit_25 : decode cX6_isDigit 25 = .ok (.bipush 57, 2) := dq_16 (hz_wg wX6_isDigit_0 (j := 25) (n := 16) rfl) (hz_wg wX6_isDigit_0 (j := 26) (n := 57) rfl) (by decide)
theorem dX6_isDigit_27 : decode cX6_isDigit 27 = .ok (.if_icmp .gt 7, 3) := dq_163 (hz_wg wX6_isDigit_0 (j := 27) (n := 163) rfl) (hz_wg wX6_isDigit_0 (j := 28) (n := 0) rfl) (hz_wg wX6_isDigit_0 (j := 29) (n := 7) rfl) (by decide)
theorem dX6_isDigit_30 : decode cX6_isDigit 30 = .ok (.iconst 1, 1) := dq_4 (hz_wg wX6_isDigit_0 (j := 30) (n := 4) rfl)
theorem dX6_isDigit_31 : decode cX6_isDigit 31 = .ok (.goto 4, 3) := dq_167 (hz_wg wX6_isDigit_0 (j := 31) (n := 167) rfl) (hz_wg wX6_isDigit_0 (j := 32) (n := 0) rfl) (hz_wg wX6_isDigit_0 (j := 33) (n := 4) rfl) (by decide)
theorem dX6_isDigit_34 : decode cX6_isDigit 34 = .ok (.iconst 0, 1) := dq_3 (hz_wg wX6_isDigit_0 (j := 34) (n := 3) rfl)
theorem dX6_isDigit_35 : decode cX6_isDigit 35 = .ok (.ireturn, 1) := dq_172 (hz_wg wX6_isDigit_0 (j := 35) (n := 172) rfl)
def wLX6_wordEnd_0 : List Nat := [42, 180, 0, 19, 60, 27, 42, 180, 0, 15, 162, 0, 31, 42, 180, 0, 9, 27, 51, 16, 97, 161, 0, 20, 42, 180, 0, 9, 27, 51, 16, 122, 163, 0, 9, 132, 1, 1, 167, 255, 223, 27, 172]
theorem wX6_wordEnd_0 : (cX6_wordEnd.data.toList.map UInt8.toNat).drop 0 = wLX6_wordEnd_0 ++ ([]) := by decide +kernel
theorem dX6_wordEnd_0 : decode cX6_wordEnd 0 = .ok (.aload_n 0, 1) := dq_42 (hz_wg wX6_wordEnd_0 (j := 0) (n := 42) rfl)
theorem dX6_wordEnd_1 : decode cX6_wordEnd 1 = .ok (.getfield 19, 3) := dq_180 (hz_wg wX6_wordEnd_0 (j := 1) (n := 180) rfl) (hz_wg wX6_wordEnd_0 (j := 2) (n := 0) rfl) (hz_wg wX6_wordEnd_0 (j := 3) (n := 19) rfl) rfl
theorem dX6_wordEnd_4 : decode cX6_wordEnd 4 = .ok (.istore_n 1, 1) := dq_60 (hz_wg wX6_wordEnd_0 (j := 4) (n := 60) rfl)
theorem dX6_wordEnd_5 : decode cX6_wordEnd 5 = .ok (.iload_n 1, 1) := dq_27 (hz_wg wX6_wordEnd_0 (j := 5) (n := 27) rfl)
theorem dX6_wordEnd_6 : decode cX6_wordEnd 6 = .ok (.aload_n 0, 1) := dq_42 (hz_wg wX6_wordEnd_0 (j := 6) (n := 42) rfl)
theorem dX6_wordEnd_7 : decode cX6_wordEnd 7 = .ok (.getfield 15, 3) := dq_180 (hz_wg wX6_wordEnd_0 (j := 7) (n := 180) rfl) (hz_wg wX6_wordEnd_0 (j := 8) (n := 0) rfl) (hz_wg wX6_wordEnd_0 (j := 9) (n := 15) rfl) rfl
theorem dX6_wordEnd_10 : decode cX6_wordEnd 10 = .ok (.if_icmp .ge 31, 3) := dq_162 (hz_wg wX6_wordEnd_0 (j := 10) (n := 162) rfl) (hz_wg wX6_wordEnd_0 (j := 11) (n := 0) rfl) (hz_wg wX6_wordEnd_0 (j := 12) (n := 31) rfl) (by decide)
theorem dX6_wordEnd_13 : decode cX6_wordEnd 13 = .ok (.aload_n 0, 1) := dq_42 (hz_wg wX6_wordEnd_0 (j := 13) (n := 42) rfl)
theorem dX6_wordEnd_14 : decode cX6_wordEnd 14 = .ok (.getfield 9, 3) := dq_180 (hz_wg wX6_wordEnd_0 (j := 14) (n := 180) rfl) (hz_wg wX6_wordEnd_0 (j := 15) (n := 0) rfl) (hz_wg wX6_wordEnd_0 (j := 16) (n := 9) rfl) rfl
theorem dX6_wordEnd_17 : decode cX6_wordEnd 17 = .ok (.iload_n 1, 1) := dq_27 (hz_wg wX6_wordEnd_0 (j := 17) (n := 27) rfl)
theorem dX6_wordEnd_18 : decode cX6_wordEnd 18 = .ok (.baload, 1) := dq_51 (hz_wg wX6_wordEnd_0 (j := 18) (n := 51) rfl)
theorem dX6_wordEnd_19 : decode cX6_wordEnd 19 = .ok (.bipush 97, 2) := dq_16 (hz_wg wX6_wordEnd_0 (j := 19) (n := 16) rfl) (hz_wg wX6_wordEnd_0 (j := 20) (n := 97) rfl) (by decide)
theorem dX6_wordEnd_21 : decode cX6_wordEnd 21 = .ok (.if_icmp .lt 20, 3) := dq_161 (hz_wg wX6_wordEnd_0 (j := 21) (n := 161) rfl) (hz_wg wX6_wordEnd_0 (j := 22) (n := 0) rfl) (hz_wg wX6_wordEnd_0 (j := 23) (n := 20) rfl) (by decide)
theorem dX6_wordEnd_24 : decode cX6_wordEnd 24 = .ok (.aload_n 0, 1) := dq_42 (hz_wg wX6_wordEnd_0 (j := 24) (n := 42) rfl)
theorem dX6_wordEnd_25 : decode cX6_wordEnd 25 = .ok (.getfield 9, 3) := dq_180 (hz_wg wX6_wordEnd_0 (j := 25) (n := 180) rfl) (hz_wg wX6_wordEnd_0 (j := 26) (n := 0) rfl) (hz_wg wX6_wordEnd_0 (j := 27) (n := 9) rfl) rfl
theorem dX6_wordEnd_28 : decode cX6_wordEnd 28 = .ok (.iload_n 1, 1) := dq_27 (hz_wg wX6_wordEnd_0 (j := 28) (n := 27) rfl)
theorem dX6_wordEnd_29 : decode cX6_wordEnd 29 = .ok (.baload, 1) := dq_51 (hz_wg wX6_wordEnd_0 (j := 29) (n := 51) rfl)
theorem dX6_wordEnd_30 : decode cX6_wordEnd 30 = .ok (.bipush 122, 2) := dq_16 (hz_wg wX6_wordEnd_0 (j := 30) (n := 16) rfl) (hz_wg wX6_wordEnd_0 (j := 31) (n := 122) rfl) (by decide)
theorem dX6_wordEnd_32 : decode cX6_wordEnd 32 = .ok (.if_icmp .gt 9, 3) := dq_163 (hz_wg wX6_wordEnd_0 (j := 32) (n := 163) rfl) (hz_wg wX6_wordEnd_0 (j := 33) (n := 0) rfl) (hz_wg wX6_wordEnd_0 (j := 34) (n := 9) rfl) (by decide)
theorem dX6_wordEnd_35 : decode cX6_wordEnd 35 = .ok (.iinc 1 1, 3) := dq_132 (hz_wg wX6_wordEnd_0 (j := 35) (n := 132) rfl) (hz_wg wX6_wordEnd_0 (j := 36) (n := 1) rfl) (hz_wg wX6_wordEnd_0 (j := 37) (n := 1) rfl) (by decide)
theorem dX6_wordEnd_38 : decode cX6_wordEnd 38 = .ok (.goto (-33), 3) := dq_167 (hz_wg wX6_wordEnd_0 (j := 38) (n := 167) rfl) (hz_wg wX6_wordEnd_0 (j := 39) (n := 255) rfl) (hz_wg wX6_wordEnd_0 (j := 40) (n := 223) rfl) (by decide)
theorem dX6_wordEnd_41 : decode cX6_wordEnd 41 = .ok (.iload_n 1, 1) := dq_27 (hz_wg wX6_wordEnd_0 (j := 41) (n := 27) rfl)
theorem dX6_wordEnd_42 : decode cX6_wordEnd 42 = .ok (.ireturn, 1) := dq_172 (hz_wg wX6_wordEnd_0 (j := 42) (n := 172) rfl)