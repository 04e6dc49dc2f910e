def wLX10_bookSum_0 : List Nat := [3, 54, 4, 3, 54, 5, 21, 5, 42, 180, 1, 95, 162, 0, 86, 42, 180, 0, 63, 21, 5, 46, 27, 160, 0, 69, 42, 180, 0, 66, 21, 5, 46, 28, 160, 0, 58, 42, 180, 0, 69, 21, 5, 46, 29, 163, 0, 47, 21, 4, 42, 180, 0, 72, 21, 5, 46, 153, 0, 14, 42, 180, 0, 72]
def wLX10_bookSum_1 : List Nat := [21, 5, 46, 6, 160, 0, 13, 42, 180, 0, 75, 21, 5, 46, 167, 0, 11, 42, 180, 0, 75, 21, 5, 46, 116, 96, 54, 4, 132, 5, 1, 167, 255, 167, 21, 4, 172]
theorem wX10_bookSum_0 : (cX10_bookSum.data.toList.map UInt8.toNat).drop 0 = wLX10_bookSum_0 ++ (wLX10_bookSum_1 ++ ([])) := by decide +kernel
theorem wX10_bookSum_1 : (cX10_bookSum.data.toList.map UInt8.toNat).drop 64 = wLX10_bookSum_1 ++ ([]) := hz_wn wX10_bookSum_0 rfl
theorem dX10_bookSum_0 : decode cX10_bookSum 0 = .ok (.iconst 0, 1) := dq_3 (hz_wg wX10_bookSum_0 (j := 0) (n := 3) rfl)
theorem dX10_bookSum_1 : decode cX10_bookSum 1 = .ok (.istore 4, 2) := dq_54 (hz_wg wX10_bookSum_0 (j := 1) (n := 54) rfl) (hz_wg wX10_bookSum_0 (j := 2) (n := 4) rfl)
theorem dX10_bookSum_3 : decode cX10_bookSum 3 = .ok (.iconst 0, 1) := dq_3 (hz_wg wX10_bookSum_0 (j := 3) (n := 3) rfl)
theorem dX10_bookSum_4 : decode cX10_bookSum 4 = .ok (.istore 5, 2) := dq_54 (hz_wg wX10_bookSum_0 (j := 4) (n := 54) rfl) (hz_wg wX10_bookSum_0 (j := 5) (n := 5) rfl)
theorem dX10_bookSum_6 : decode cX10_bookSum 6 = .ok (.iload 5, 2) := dq_21 (hz_wg wX10_bookSum_0 (j := 6) (n := 21) rfl) (hz_wg wX10_bookSum_0 (j := 7) (n := 5) rfl)
theorem dX10_bookSum_8 : decode cX10_bookSum 8 = .ok (.aload_n 0, 1) := dq_42 (hz_wg wX10_bookSum_0 (j := 8) (n := 42) rfl)
theorem dX10_bookSum_9 : decode cX10_bookSum 9 = .ok (.getfield 351, 3) := dq_180 (hz_wg wX10_bookSum_0 (j := 9) (n := 180) rfl) (hz_wg wX10_bookSum_0 (j := 10) (n := 1) rfl) (hz_wg wX10_bookSum_0 (j := 11) (n := 95) rfl) rfl
theorem dX10_bookSum_12 : decode cX10_bookSum 12 = .ok (.if_icmp .ge 86, 3) := dq_162 (hz_wg wX10_bookSum_0 (j := 12) (n := 162) rfl) (hz_wg wX10_bookSum_0 (j := 13) (n := 0) rfl) (hz_wg wX10_bookSum_0 (j := 14) (n := 86) rfl) (by decide)
theorem dX10_bookSum_15 : decode cX10_bookSum 15 = .ok (.aload_n 0, 1) := dq_42 (hz_wg wX10_bookSum_0 (j := 15) (n := 42) rfl)
theorem dX10_bookSum_16 : decode cX10_bookSum 16 = .ok (.getfield 63, 3) := dq_180 (hz_wg wX10_bookSum_0 (j := 16) (n := 180) rfl) (hz_wg wX10_bookSum_0 (j := 17) (n := 0) rfl) (hz_wg wX10_bookSum_0 (j := 18) (n := 63) rfl) rfl
theorem dX10_bookSum_19 : decode cX10_bookSum 19 = .ok (.iload 5, 2) := dq_21 (hz_wg wX10_bookSum_0 (j := 19) (n := 21) rfl) (hz_wg wX10_bookSum_0 (j := 20) (n := 5) rfl)
theorem dX10_bookSum_21 : decode cX10_bookSum 21 = .ok (.iaload, 1) := dq_46 (hz_wg wX10_bookSum_0 (j := 21) (n := 46) rfl)
theorem dX10_bookSum_22 : decode cX10_bookSum 22 = .ok (.iload_n 1, 1) := dq_27 (hz_wg wX10_bookSum_0 (j := 22) (n := 27) rfl)
theorem dX10_bookSum_23 : decode cX10_bookSum 23 = .ok (.if_icmp .ne 69, 3) := dq_160 (hz_wg wX10_bookSum_0 (j := 23) (n := 160) rfl) (hz_wg wX10_bookSum_0 (j := 24) (n := 0) rfl) (hz_wg wX10_bookSum_0 (j := 25) (n := 69) rfl) (by decide)
theorem dX10_bookSum_26 : decode cX10_bookSum 26 = .ok (.aload_n 0, 1) := dq_42 (hz_wg wX10_bookSum_0 (j := 26) (n := 42) rfl)
theorem dX10_bookSum_27 : decode cX10_bookSum 27 = .ok (.getfield 66, 3) := dq_180 (hz_wg wX10_bookSum_0 (j := 27) (n := 180) rfl) (hz_wg wX10_bookSum_0 (j := 28) (n := 0) rfl) (hz_wg wX10_bookSum_0 (j := 29) (n := 66) rfl) rfl
theorem dX10_bookSum_30 : decode cX10_bookSum 30 = .ok (.iload 5, 2) := dq_21 (hz_wg wX10_bookSum_0 (j := 30) (n := 21) rfl) (hz_wg wX10_bookSum_0 (j := 31) (n := 5) rfl)
theorem dX10_bookSum_32 : decode cX10_bookSum 32 = .ok (.iaload, 1) := dq_46 (hz_wg wX10_bookSum_0 (j := 32) (n := 46) rfl)
theorem dX10_bookSum_33 : decode cX10_bookSum 33 = .ok (.iload_n 2, 1) := dq_28 (hz_wg wX10_bookSum_0 (j := 33) (n := 28) rfl)
theorem dX10_bookSum_34 : decode cX10_bookSum 34 = .ok (.if_icmp .ne 58, 3) := dq_160 (hz_wg wX10_bookSum_0 (j := 34) (n := 160) rfl) (hz_wg wX10_bookSum_0 (j := 35) (n := 0) rfl) (hz_wg wX10_bookSum_0 (j := 36) (n := 58) rfl) (by decide)
theorem dX10_bookSum_37 : decode cX10_bookSum 37 = .ok (.aload_n 0, 1) := dq_42 (hz_wg wX10_bookSum_0 (j := 37) (n := 42) rfl)
theorem dX10_bookSum_38 : decode cX10_bookSum 38 = .ok (.getfield 69, 3) := dq_180 (hz_wg wX10_bookSum_0 (j := 38) (n := 180) rfl) (hz_wg wX10_bookSum_0 (j := 39) (n := 0) rfl) (hz_wg wX10_bookSum_0 (j := 40) (n := 69) rfl) rfl
theorem dX10_bookSum_41 : decode cX10_bookSum 41 = .ok (.iload 5, 2) := dq_21 (hz_wg wX10_bookSum_0 (j := 41) (n := 21) rfl) (hz_wg wX10_bookSum_0 (j := 42) (n := 5) rfl)
theorem dX10_bookSum_43 : decode cX10_bookSum 43 = .ok (.iaload, 1) := dq_46 (hz_wg wX10_bookSum_0 (j := 43) (n := 46) rfl)
theorem dX10_bookSum_44 : decode cX10_bookSum 44 = .ok (.iload_n 3, 1) := dq_29 (hz_wg wX10_bookSum_0 (j := 44) (n := 29) rfl)
theorem dX10_bookSum_45 : decode cX10_bookSum 45 = .ok (.if_icmp .gt 47, 3) := dq_163 (hz_wg wX10_bookSum_0 (j := 45) (n := 163) rfl) (hz_wg wX10_bookSum_0 (j := 46) (n := 0) rfl) (hz_wg wX10_bookSum_0 (j := 47) (n := 47) rfl) (by decide)
theorem dX10_bookSum_48 : decode cX10_bookSum 48 = .ok (.iload 4, 2) := dq_21 (hz_wg wX10_bookSum_0 (j := 48) (n := 21) rfl) (hz_wg wX10_bookSum_0 (j := 49) (n := 4) rfl)
theorem dX10_bookSum_50 : decode cX10_bookSum 50 = .ok (.aload_n 0, 1) := dq_42 (hz_wg wX10_bookSum_0 (j := 50) (n := 42) rfl)
theorem dX10_bookSum_51 : decode cX10_bookSum 51 = .ok (.getfield 72, 3) := dq_180 (hz_wg wX10_bookSum_0 (j := 51) (n := 180) rfl) (hz_wg wX10_bookSum_0 (j := 52) (n := 0) rfl) (hz_wg wX10_bookSum_0 (j := 53) (n := 72) rfl) rfl
theorem dX10_bookSum_54 : decode cX10_bookSum 54 = .ok (.iload 5, 2) := dq_21 (hz_wg wX10_bookSum_0 (j := 54) (n := 21) rfl) (hz_wg wX10_bookSum_0 (j := 55) (n := 5) rfl)
theorem dX10_bookSum_56 : decode cX10_bookSum 56 = .ok (.iaload, 1) := dq_46 (hz_wg wX10_bookSum_0 (j := 56) (n := 46) rfl)
theorem dX10_bookSum_57 : decode cX10_bookSum 57 = .ok (.ifCond .eq 14, 3) := dq_153 (hz_wg wX10_bookSum_0 (j := 57) (n := 153) rfl) (hz_wg wX10_bookSum_0 (j := 58) (n := 0) rfl) (hz_wg wX10_bookSum_0 (j := 59) (n := 14) rfl) (by decide)
theorem dX10_bookSum_60 : decode cX10_bookSum 60 = .ok (.aload_n 0, 1) := dq_42 (hz_wg wX10_bookSum_0 (j := 60) (n := 42) rfl)
theorem dX10_bookSum_61 : decode cX10_bookSum 61 = .ok (.getfield 72, 3) := dq_180 (hz_wg wX10_bookSum_0 (j := 61) (n := 180) rfl) (hz_wg wX10_bookSum_0 (j := 62) (n := 0) rfl) (hz_wg wX10_bookSum_0 (j := 63) (n := 72) rfl) rfl
theorem dX10_bookSum_64 : decode cX10_bookSum 64 = .ok (.iload 5, 2) := dq_21 (hz_wg wX10_bookSum_1 (j := 0) (n := 21) rfl) (hz_wg wX10_bookSum_1 (j := 1) (n := 5) rfl)
theorem dX10_bookSum_66 : decode cX10_bookSum 66 = .ok (.iaload, 1) := dq_46 (hz_wg wX10_bookSum_1 (j := 2) (n := 46) rfl)
theorem dX10_bookSum_67 : decode cX10_bookSum 67 = .ok (.iconst 3, 1) := dq_6 (hz_wg wX10_bookSum_1 (j := 3) (n := 6) rfl)
theorem dX10_bookSum_68 : decode cX10_bookSum 68 = .ok (.if_icmp .ne 13, 3) := dq_160 (hz_wg wX10_bookSum_1 (j := 4) (n := 160) rfl) (hz_wg wX10_bookSum_1 (j := 5) (n := 0) rfl) (hz_wg wX10_bookSum_1 (j := 6) (n := 13) rfl) (by decide)
theorem dX10_bookSum_71 : decode cX10_bookSum 71 = .ok (.aload_n 0, 1) := dq_42 (hz_wg wX10_bookSum_1 (j := 7) (n := 42) rfl)
theorem dX10_bookSum_72 : decode cX10_bookSum 72 = .ok (.getfield 75, 3) := dq_180 (hz_wg wX10_bookSum_1 (j := 8) (n := 180) rfl) (hz_wg wX10_bookSum_1 (j := 9) (n := 0) rfl) (hz_wg wX10_bookSum_1 (j := 10) (n := 75) rfl) rfl
theorem dX10_bookSum_75 : decode cX10_bookSum 75 = .ok (.iload 5, 2) := dq_21 (hz_wg wX10_bookSum_1 (j := 11) (n := 21) rfl) (hz_wg wX10_bookSum_1 (j := 12) (n := 5) rfl)
theorem dX10_bookSum_77 : decode cX10_bookSum 77 = .ok (.iaload, 1) := dq_46 (hz_wg wX10_bookSum_1 (j := 13) (n := 46) rfl)
theorem dX10_bookSum_78 : decode cX10_bookSum 78 = .ok (.goto 11, 3) := dq_167 (hz_wg wX10_bookSum_1 (j := 14) (n := 167) rfl) (hz_wg wX10_bookSum_1 (j := 15) (n := 0) rfl) (hz_wg wX10_bookSum_1 (j := 16) (n := 11) rfl) (by decide)
theorem dX10_bookSum_81 : decode cX10_bookSum 81 = .ok (.aload_n 0, 1) := dq_42 (hz_wg wX10_bookSum_1 (j := 17) (n := 42) rfl)
theorem dX10_bookSum_82 : decode cX10_bookSum 82 = .ok (.getfield 75, 3) := dq_180 (hz_wg wX10_bookSum_1 (j := 18) (n := 180) rfl) (hz_wg wX10_bookSum_1 (j := 19) (n := 0) rfl) (hz_wg wX10_bookSum_1 (j := 20) (n := 75) rfl) rfl
theorem dX10_bookSum_85 : decode cX10_bookSum 85 = .ok (.iload 5, 2) := dq_21 (hz_wg wX10_bookSum_1 (j := 21) (n := 21) rfl) (hz_wg wX10_bookSum_1 (j := 22) (n := 5) rfl)
theorem dX10_bookSum_87 : decode cX10_bookSum 87 = .ok (.iaload, 1) := dq_46 (hz_wg wX10_bookSum_1 (j := 23) (n := 46) rfl)
theorem dX10_bookSum_88 : decode cX10_bookSum 88 = .ok (.ineg, 1) := dq_116 (hz_wg wX10_bookSum_1 (j := 24) (n := 116) rfl)
theorem dX10_bookSum_89 : decode cX10_bookSum 89 = .ok (.iadd, 1) := dq_96 (hz_wg wX10_bookSum_1 (j := 25) (n := 96) rfl)
theorem dX10_bookSum_90 : decode cX10_bookSum 90 = .ok (.istore 4, 2) := dq_54 (hz_wg wX10_bookSum_1 (j := 26) (n := 54) rfl) (hz_wg wX10_bookSum_1 (j := 27) (n := 4) rfl)
theorem dX10_bookSum_92 : decode cX10_bookSum 92 = .ok (.iinc 5 1, 3) := dq_132 (hz_wg wX10_bookSum_1 (j := 28) (n := 132) rfl) (hz_wg wX10_bookSum_1 (j := 29) (n := 5) rfl) (hz_wg wX10_bookSum_1 (j := 30) (n := 1) rfl) (by decide)
theorem dX10_bookSum_95 : decode cX10_bookSum 95 = .ok (.goto (-89), 3) := dq_167 (hz_wg wX10_bookSum_1 (j := 31) (n := 167) rfl) (hz_wg wX10_bookSum_1 (j := 32) (n := 255) rfl) (hz_wg wX10_bookSum_1 (j := 33) (n := 167) rfl) (by decide)
theorem dX10_bookSum_98 : decode cX10_bookSum 98 = .ok (.iload 4, 2) := dq_21 (hz_wg wX10_bookSum_1 (j := 34) (n := 21) rfl) (hz_wg wX10_bookSum_1 (j := 35) (n := 4) rfl)
theorem dX10_bookSum_100 : decode cX10_bookSum 100 = .ok (.ireturn, 1) := dq_172 (hz_wg wX10_bookSum_1 (j := 36) (n := 172) rfl)
def wLX10_disorder_0 : List Nat := [3, 61, 2, 62, 3, 54, 4, 21, 4, 42, 180, 1, 95, 162, 0, 50, 42, 180, 0, 63, 21, 4, 46, 27, 159, 0, 6, 167, 0, 30, 28, 42, 180, 0, 69, 21, 4, 46, 29, 162, 0, 7, 4, 167, 0, 4, 3, 96, 61, 42, 180, 0, 69, 21, 4, 46, 62, 132, 4, 1, 167, 255, 203, 28]
def wLX10_disorder_1 : List Nat := [172]
theorem wX10_disorder_0 : (cX10_disorder.data.toList.map UInt8.toNat).drop 0 = wLX10_disorder_0 ++ (wLX10_disorder_1 ++ ([])) := by decide +kernel
theorem wX10_disorder_1 : (cX10_disorder.data.toList.map UInt8.toNat).drop 64 = wLX10_disorder_1 ++ ([]) := hz_wn wX10_disorder_0 rfl
theorem dX10_disorder_0 : decode cX10_disorder 0 = .ok (.iconst 0, 1) := dq_3 (hz_wg wX10_disorder_0 (j := 0) (n := 3) rfl)
theorem dX10_disorder_1 : decode cX10_disorder 1 = .ok (.istore_n 2, 1) := dq_61 (hz_wg wX10_disorder_0 (j := 1) (n := 61) rfl)
theorem dX10_disorder_2 : decode cX10_disorder 2 = .ok (.iconst (-1), 1) := dq_2 (hz_wg wX10_disorder_0 (j := 2) (n := 2) rfl)
theorem dX10_disorder_3 : decode cX10_disorder 3 = .ok (.istore_n 3, 1) := dq_62 (hz_wg wX10_disorder_0 (j := 3) (n := 62) rfl)
theorem dX10_disorder_4 : decode cX10_disorder 4 = .ok (.iconst 0, 1) := dq_3 (hz_wg wX10_disorder_0 (j := 4) (n := 3) rfl)
theorem dX10_disorder_5 : decode cX10_disorder 5 = .ok (.istore 4, 2) := dq_54 (hz_wg wX10_disorder_0 (j := 5) (n := 54) rfl) (hz_wg wX10_disorder_0 (j := 6) (n := 4) rfl)
theorem dX10_disorder_7 : decode cX10_disorder 7 = .ok (.iload 4, 2) := dq_21 (hz_wg wX10_disorder_0 (j := 7) (n := 21) rfl) (hz_wg wX10_disorder_0 (j := 8) (n := 4) rfl)
theorem dX10_disorder_9 : decode cX10_disorder 9 = .ok (.aload_n 0, 1) := dq_42 (hz_wg wX10_disorder_0 (j := 9) (n := 42) rfl)
theorem dX10_disorder_10 : decode cX10_disorder 10 = .ok (.getfield 351, 3) := dq_180 (hz_wg wX10_disorder_0 (j := 10) (n := 180) rfl) (hz_wg wX10_disorder_0 (j := 11) (n := 1) rfl) (hz_wg wX10_disorder_0 (j := 12) (n := 95) rfl) rfl
theorem dX10_disorder_13 : decode cX10_disorder 13 = .ok (.if_icmp .ge 50, 3) := dq_162 (hz_wg wX10_disorder_0 (j := 13) (n := 162) rfl) (hz_wg wX10_disorder_0 (j := 14) (n := 0) rfl) (hz_wg wX10_disorder_0 (j := 15) (n := 50) rfl) (by decide)
theorem dX10_disorder_16 : decode cX10_disorder 16 = .ok (.aload_n 0, 1) := dq_42 (hz_wg wX10_disorder_0 (j := 16) (n := 42) rfl)
theorem dX10_disorder_17 : decode cX10_disorder 17 = .ok (.getfield 63, 3) := dq_180 (hz_wg wX10_disorder_0 (j := 17) (n := 180) rfl) (hz_wg wX10_disorder_0 (j := 18) (n := 0) rfl) (hz_wg wX10_disorder_0 (j := 19) (n := 63) rfl) rfl
theorem dX10_disorder_20 : decode cX10_disorder 20 = .ok (.iload 4, 2) := dq_21 (hz_wg wX10_disorder_0 (j := 20) (n := 21) rfl) (hz_wg wX10_disorder_0 (j := 21) (n := 4) rfl)
theorem dX10_disorder_22 : decode cX10_disorder 22 = .ok (.iaload, 1) := dq_46 (hz_wg wX10_disorder_0 (j := 22) (n := 46) rfl)
theorem dX10_disorder_23 : decode cX10_disorder 23 = .ok (.iload_n 1, 1) := dq_27 (hz_wg wX10_disorder_0 (j := 23) (n := 27) rfl)
theorem dX10_disorder_24 : decode cX10_disorder 24 = .ok (.if_icmp .eq 6, 3) := dq_159 (hz_wg wX10_disorder_0 (j := 24) (n := 159) rfl) (hz_wg wX10_disorder_0 (j := 25) (n := 0) rfl) (hz_wg wX10_disorder_0 (j := 26) (n := 6) rfl) (by decide)
theorem dX10_disorder_27 : decode cX10_disorder 27 = .ok (.goto 30, 3) := dq_167 (hz_wg wX10_disorder_0 (j := 27) (n := 167) rfl) (hz_wg wX10_disorder_0 (j := 28) (n := 0) rfl) (hz_wg wX10_disorder_0 (j := 29) (n := 30) rfl) (by decide)
theorem dX10_disorder_30 : decode cX10_disorder 30 = .ok (.iload_n 2, 1) := dq_28 (hz_wg wX10_disorder_0 (j := 30) (n := 28) rfl)
theorem dX10_disorder_31 : decode cX10_disorder 31 = .ok (.aload_n 0, 1) := dq_42 (hz_wg wX10_disorder_0 (j := 31) (n := 42) rfl)
theorem dX10_disorder_32 : decode cX10_disorder 32 = .ok (.getfield 69, 3) := dq_180 (hz_wg wX10_disorder_0 (j := 32) (n := 180) rfl) (hz_wg wX10_disorder_0 (j := 33) (n := 0) rfl) (hz_wg wX10_disorder_0 (j := 34) (n := 69) rfl) rfl
theorem dX10_disorder_35 : decode cX10_disorder 35 = .ok (.iload 4, 2) := dq_21 (hz_wg wX10_disorder_0 (j := 35) (n := 21) rfl) (hz_wg wX10_disorder_0 (j := 36) (n := 4) rfl)
theorem dX10_disorder_37 : decode cX10_disorder 37 = .ok (.iaload, 1) := dq_46 (hz_wg wX10_disorder_0 (j := 37) (n := 46) rfl)
theorem dX10_disorder_38 : decode cX10_disorder 38 = .ok (.iload_n 3, 1) := dq_29 (hz_wg wX10_disorder_0 (j := 38) (n := 29) rfl)
theorem dX10_disorder_39 : decode cX10_disorder 39 = .ok (.if_icmp .ge 7, 3) := dq_162 (hz_wg wX10_disorder_0 (j := 39) (n := 162) rfl) (hz_wg wX10_disorder_0 (j := 40) (n := 0) rfl) (hz_wg wX10_disorder_0 (j := 41) (n := 7) rfl) (by decide)
theorem dX10_disorder_42 : decode cX10_disorder 42 = .ok (.iconst 1, 1) := dq_4 (hz_wg wX10_disorder_0 (j := 42) (n := 4) rfl)
theorem dX10_disorder_43 : decode cX10_disorder 43 = .ok (.goto 4, 3) := dq_167 (hz_wg wX10_disorder_0 (j := 43) (n := 167) rfl) (hz_wg wX10_disorder_0 (j := 44) (n := 0) rfl) (hz_wg wX10_disorder_0 (j := 45) (n := 4) rfl) (by decide)
theorem dX10_disorder_46 : decode cX10_disorder 46 = .ok (.iconst 0, 1) := dq_3 (hz_wg wX10_disorder_0 (j := 46) (n := 3) rfl)
theorem dX10_disorder_47 : decode cX10_disorder 47 = .ok (.iadd, 1) := dq_96 (hz_wg wX10_disorder_0 (j := 47) (n := 96) rfl)
theorem dX10_disorder_48 : decode cX10_disorder 48 = .ok (.istore_n 2, 1) := dq_61 (hz_wg wX10_disorder_0 (j := 48) (n := 61) rfl)
theorem dX10_disorder_49 : decode cX10_disorder 49 = .ok (.aload_n 0, 1) := dq_42 (hz_wg wX10_disorder_0 (j := 49) (n := 42) rfl)
theorem dX10_disorder_50 : decode cX10_disorder 50 = .ok (.getfield 69, 3) := dq_180 (hz_wg wX10_disorder_0 (j := 50) (n := 180) rfl) (hz_wg wX10_disorder_0 (j := 51) (n := 0) rfl) (hz_wg wX10_disorder_0 (j := 52) (n := 69) rfl) rfl
theorem dX10_disorder_53 : decode cX10_disorder 53 = .ok (.iload 4, 2) := dq_21 (hz_wg wX10_disorder_0 (j := 53) (n := 21) rfl) (hz_wg wX10_disorder_0 (j := 54) (n := 4) rfl)
theorem dX10_disorder_55 : decode cX10_disorder 55 = .ok (.iaload, 1) := dq_46 (hz_wg wX10_disorder_0 (j := 55) (n := 46) rfl)
theorem dX10_disorder_56 : decode cX10_disorder 56 = .ok (.istore_n 3, 1) := dq_62 (hz_wg wX10_disorder_0 (j := 56) (n := 62) rfl)
theorem dX10_disorder_57 : decode cX10_disorder 57 = .ok (.iinc 4 1, 3) := dq_132 (hz_wg wX10_disorder_0 (j := 57) (n := 132) rfl) (hz_wg wX10_disorder_0 (j := 58) (n := 4) rfl) (hz_wg wX10_disorder_0 (j := 59) (n := 1) rfl) (by decide)
theorem dX10_disorder_60 : decode cX10_disorder 60 = .ok (.goto (-53), 3) := dq_167 (hz_wg wX10_disorder_0 (j := 60) (n := 167) rfl) (hz_wg wX10_disorder_0 (j := 61) (n := 255) rfl) (hz_wg wX10_disorder_0 (j := 62) (n := 203) rfl) (by decide)
theorem dX10_disorder_63 : decode cX10_disorder 63 = .ok (.iload_n 2, 1) := dq_28 (hz_wg wX10_disorder_0 (j := 63) (n := 28) rfl)
theorem dX10_disorder_64 : decode cX10_disorder 64 = .ok (.ireturn, 1) := dq_172 (hz_wg wX10_disorder_1 (j := 0) (n := 172) rfl)
def wLX10_areTwins_0 : List Nat := [42, 180, 0, 69, 27, 46, 42, 180, 0, 69, 28, 46, 100, 62, 42, 180, 0, 72, 27, 46, 4, 130, 42, 180, 0, 72, 28, 46, 160, 0, 32, 42, 180, 0, 75, 27, 46, 42, 180, 0, 75, 28, 46, 160, 0, 17, 29, 16, 253, 6, 184, 0, 228, 153, 0, 7, 4, 167, 0, 4, 3, 172]
theorem wX10_areTwins_0 : (cX10_areTwins.data.toList.map UInt8.toNat).drop 0 = wLX10_areTwins_0 ++ ([]) := by decide +kernel
theorem dX10_areTwins_0 : decode cX10_areTwins 0 = .ok (.aload_n 0, 1) := dq_42 (hz_wg wX10_areTwins_0 (j := 0) (n := 42) rfl)
theorem dX10_areTwins_1 : decode cX10_areTwins 1 = .ok (.getfield 69, 3) := dq_180 (hz_wg wX10_areTwins_0 (j := 1) (n := 180) rfl) (hz_wg wX10_areTwins_0 (j := 2) (n := 0) rfl) (hz_wg wX10_areTwins_0 (j := 3) (n := 69) rfl) rfl
theorem dX10_areTwins_4 : decode cX10_areTwins 4 = .ok (.iload_n 1, 1) := dq_27 (hz_wg wX10_areTwins_0 (j := 4) (n := 27) rfl)
theorem dX10_areTwins_5 : decode cX10_areTwins 5 = .ok (.iaload, 1) := dq_46 (hz_wg wX10_areTwins_0 (j := 5) (n := 46) rfl)
theorem dX10_areTwins_6 : decode cX10_areTwins 6 = .ok (.aload_n 0, 1) := dq_42 (hz_wg wX10_areTwins_0 (j := 6) (n := 42) rfl)
theorem dX10_areTwins_7 : decode cX10_areTwins 7 = .ok (.getfield 69, 3) := dq_180 (hz_wg wX10_areTwins_0 (j := 7) (n := 180) rfl) (hz_wg wX10_areTwins_0 (j := 8) (n := 0) rfl) (hz_wg wX10_areTwins_0 (j := 9) (n := 69) rfl) rfl
theorem dX10_areTwins_10 : decode cX10_areTwins 10 = .ok (.iload_n 2, 1) := dq_28 (hz_wg wX10_areTwins_0 (j := 10) (n := 28) rfl)
theorem dX10_areTwins_11 : decode cX10_areTwins 11 = .ok (.iaload, 1) := dq_46 (hz_wg wX10_areTwins_0 (j := 11) (n := 46) rfl)
theorem dX10_areTwins_12 : decode cX10_areTwins 12 = .ok (.isub, 1) := dq_100 (hz_wg wX10_areTwins_0 (j := 12) (n := 100) rfl)
theorem dX10_areTwins_13 : decode cX10_areTwins 13 = .ok (.istore_n 3, 1) := dq_62 (hz_wg wX10_areTwins_0 (j := 13) (n := 62) rfl)
theorem dX10_areTwins_14 : decode cX10_areTwins 14 = .ok (.aload_n 0, 1) := dq_42 (hz_wg wX10_areTwins_0 (j := 14) (n := 42) rfl)
theorem dX10_areTwins_15 : decode cX10_areTwins 15 = .ok (.getfield 72, 3) := dq_180 (hz_wg wX10_areTwins_0 (j := 15) (n := 180) rfl) (hz_wg wX10_areTwins_0 (j := 16) (n := 0) rfl) (hz_wg wX10_areTwins_0 (j := 17) (n := 72) rfl) rfl
theorem dX10_areTwins_18 : decode cX10_areTwins 18 = .ok (.iload_n 1, 1) := dq_27 (hz_wg wX10_areTwins_0 (j := 18) (n := 27) rfl)
theorem dX10_areTwins_19 : decode cX10_areTwins 19 = .ok (.iaload, 1) := dq_46 (hz_wg wX10_areTwins_0 (j := 19) (n := 46) rfl)
theorem dX10_areTwins_20 : decode cX10_areTwins 20 = .ok (.iconst 1, 1) := dq_4 (hz_wg wX10_areTwins_0 (j := 20) (n := 4) rfl)
theorem dX10_areTwins_21 : decode cX10_areTwins 21 = .ok (.ixor, 1) := dq_130 (hz_wg wX10_areTwins_0 (j := 21) (n := 130) rfl)
theorem dX10_areTwins_22 : decode cX10_areTwins 22 = .ok (.aload_n 0, 1) := dq_42 (hz_wg wX10_areTwins_0 (j := 22) (n := 42) rfl)
theorem dX10_areTwins_23 : decode cX10_areTwins 23 = .ok (.getfield 72, 3) := dq_180 (hz_wg wX10_areTwins_0 (j := 23) (n := 180) rfl) (hz_wg wX10_areTwins_0 (j := 24) (n := 0) rfl) (hz_wg wX10_areTwins_0 (j := 25) (n := 72) rfl) rfl
theorem dX10_areTwins_26 : decode cX10_areTwins 26 = .ok (.iload_n 2, 1) := dq_28 (hz_wg wX10_areTwins_0 (j := 26) (n := 28) rfl)
theorem dX10_areTwins_27 : decode cX10_areTwins 27 = .ok (.iaload, 1) := dq_46 (hz_wg wX10_areTwins_0 (j := 27) (n := 46) rfl)
theorem dX10_areTwins_28 : decode cX10_areTwins 28 = .ok (.if_icmp .ne 32, 3) := dq_160 (hz_wg wX10_areTwins_0 (j := 28) (n := 160) rfl) (hz_wg wX10_areTwins_0 (j := 29) (n := 0) rfl) (hz_wg wX10_areTwins_0 (j := 30) (n := 32) rfl) (by decide)
theorem dX10_areTwins_31 : decode cX10_areTwins 31 = .ok (.aload_n 0, 1) := dq_42 (hz_wg wX10_areTwins_0 (j := 31) (n := 42) rfl)
theorem dX10_areTwins_32 : decode cX10_areTwins 32 = .ok (.getfield 75, 3) := dq_180 (hz_wg wX10_areTwins_0 (j := 32) (n := 180) rfl) (hz_wg wX10_areTwins_0 (j := 33) (n := 0) rfl) (hz_wg wX10_areTwins_0 (j := 34) (n := 75) rfl) rfl
theorem dX10_areTwins_35 : decode cX10_areTwins 35 = .ok (.iload_n 1, 1) := dq_27 (hz_wg wX10_areTwins_0 (j := 35) (n := 27) rfl)
theorem dX10_areTwins_36 : decode cX10_areTwins 36 = .ok (.iaload, 1) := dq_46 (hz_wg wX10_areTwins_0 (j := 36) (n := 46) rfl)
theorem dX10_areTwins_37 : decode cX10_areTwins 37 = .ok (.aload_n 0, 1) := dq_42 (hz_wg wX10_areTwins_0 (j := 37) (n := 42) rfl)
theorem dX10_areTwins_38 : decode cX10_areTwins 38 = .ok (.getfield 75, 3) := dq_180 (hz_wg wX10_areTwins_0 (j := 38) (n := 180) rfl) (hz_wg wX10_areTwins_0 (j := 39) (n := 0) rfl) (hz_wg wX10_areTwins_0 (j := 40) (n := 75) rfl) rfl
theorem dX10_areTwins_41 : decode cX10_areTwins 41 = .ok (.iload_n 2, 1) := dq_28 (hz_wg wX10_areTwins_0 (j := 41) (n := 28) rfl)
theorem dX10_areTwins_42 : decode cX10_areTwins 42 = .ok (.iaload, 1) := dq_46 (hz_wg wX10_areTwins_0 (j := 42) (n := 46) rfl)
theorem dX10_areTwins_43 : decode cX10_areTwins 43 = .ok (.if_icmp .ne 17, 3) := dq_160 (hz_wg wX10_areTwins_0 (j := 43) (n := 160) rfl) (hz_wg wX10_areTwins_0 (j := 44) (n := 0) rfl) (hz_wg wX10_areTwins_0 (j := 45) (n := 17) rfl) (by decide)
theorem dX10_areTwins_46 : decode cX10_areTwins 46 = .ok (.iload_n 3, 1) := dq_29 (hz_wg wX10_areTwins_0 (j := 46) (n := 29) rfl)
theorem dX10_areTwins_47 : decode cX10_areTwins 47 = .ok (.bipush (-3), 2) := dq_16 (hz_wg wX10_areTwins_0 (j := 47) (n := 16) rfl) (hz_wg wX10_areTwins_0 (j := 48) (n := 253) rfl) (by decide)
theorem dX10_areTwins_49 : decode cX10_areTwins 49 = .ok (.iconst 3, 1) := dq_6 (hz_wg wX10_areTwins_0 (j := 49) (n := 6) rfl)
theorem dX10_areTwins_50 : decode cX10_areTwins 50 = .ok (.invokestatic 228, 3) := dq_184 (hz_wg wX10_areTwins_0 (j := 50) (n := 184) rfl) (hz_wg wX10_areTwins_0 (j := 51) (n := 0) rfl) (hz_wg wX10_areTwins_0 (j := 52) (n := 228) rfl) rfl
theorem dX10_areTwins_53 : decode cX10_areTwins 53 = .ok (.ifCond .eq 7, 3) := dq_153 (hz_wg wX10_areTwins_0 (j := 53) (n := 153) rfl) (hz_wg wX10_areTwins_0 (j := 54) (n := 0) rfl) (hz_wg wX10_areTwins_0 (j := 55) (n := 7) rfl) (by decide)
theorem dX10_areTwins_56 : decode cX10_areTwins 56 = .ok (.iconst 1, 1) := dq_4 (hz_wg wX10_areTwins_0 (j := 56) (n := 4) rfl)
theorem dX10_areTwins_57 : decode cX10_areTwins 57 = .ok (.goto 4, 3) := dq_167 (hz_wg wX10_areTwins_0 (j := 57) (n := 167) rfl) (hz_wg wX10_areTwins_0 (j := 58) (n := 0) rfl) (hz_wg wX10_areTwins_0 (j := 59) (n := 4) rfl) (by decide)
theorem dX10_areTwins_60 : decode cX10_areTwins 60 = .ok (.iconst 0, 1) := dq_3 (hz_wg wX10_areTwins_0 (j := 60) (n := 3) rfl)
theorem dX10_areTwins_61 : decode cX10_areTwins 61 = .ok (.ireturn, 1) := dq_172 (hz_wg wX10_areTwins_0 (j := 61) (n := 172) rfl)
def wLX10_alike_0 : List Nat := [3, 54, 4, 21, 4, 42, 180, 1, 95, 162, 0, 17, 42, 180, 0, 78, 21, 4, 3, 84, 132, 4, 1, 167, 255, 236, 3, 54, 4, 3, 54, 5, 21, 5, 29, 163, 0, 187, 3, 54, 6, 21, 6, 42, 180, 1, 95, 162, 0, 169, 42, 180, 0, 69, 21, 6, 46, 21, 5, 160, 0, 151, 42, 180]
def wLX10_alike_1 : List Nat := [0, 63, 21, 6, 46, 27, 160, 0, 140, 42, 180, 0, 66, 21, 6, 46, 28, 159, 0, 6, 167, 0, 126, 2, 54, 7, 3, 54, 8, 21, 8, 42, 180, 1, 95, 162, 0, 92, 42, 180, 0, 78, 21, 8, 51, 154, 0, 76, 42, 180, 0, 63, 21, 8, 46, 28, 160, 0, 65, 42, 180, 0, 66, 21]
def wLX10_alike_2 : List Nat := [8, 46, 27, 160, 0, 54, 42, 180, 0, 69, 21, 8, 46, 29, 163, 0, 43, 42, 21, 6, 21, 8, 182, 1, 98, 154, 0, 6, 167, 0, 29, 21, 7, 155, 0, 20, 42, 180, 0, 69, 21, 8, 46, 42, 180, 0, 69, 21, 7, 46, 162, 0, 7, 21, 8, 54, 7, 132, 8, 1, 167, 255, 161, 21]
def wLX10_alike_3 : List Nat := [7, 156, 0, 6, 167, 0, 14, 42, 180, 0, 78, 21, 7, 4, 84, 132, 4, 1, 132, 6, 1, 167, 255, 84, 132, 5, 1, 167, 255, 69, 21, 4, 172]
theorem wX10_alike_0 : (cX10_alike.data.toList.map UInt8.toNat).drop 0 = wLX10_alike_0 ++ (wLX10_alike_1 ++ (wLX10_alike_2 ++ (wLX10_alike_3 ++ ([])))) := by decide +kernel
theorem wX10_alike_1 : (cX10_alike.data.toList.map UInt8.toNat).drop 64 = wLX10_alike_1 ++ (wLX10_alike_2 ++ (wLX10_alike_3 ++ ([]))) := hz_wn wX10_alike_0 rfl
theorem wX10_alike_2 : (cX10_alike.data.toList.map UInt8.toNat).drop 128 = wLX10_alike_2 ++ (wLX10_alike_3 ++ ([])) := hz_wn wX10_alike_1 rfl
theorem wX10_alike_3 : (cX10_alike.data.toList.map UInt8.toNat).drop 192 = wLX10_alike_3 ++ ([]) := hz_wn wX10_alike_2 rfl
theorem dX10_alike_0 : decode cX10_alike 0 = .ok (.iconst 0, 1) := dq_3 (hz_wg wX10_alike_0 (j := 0) (n := 3) rfl)
theorem dX10_alike_1 : decode cX10_alike 1 = .ok (.istore 4, 2) := dq_54 (hz_wg wX10_alike_0 (j := 1) (n := 54) rfl) (hz_wg wX10_alike_0 (j := 2) (n := 4) rfl)
theorem dX10_alike_3 : decode cX10_alike 3 = .ok (.iload 4, 2) := dq_21 (hz_wg wX10_alike_0 (j := 3) (n := 21) rfl) (hz_wg wX10_alike_0 (j := 4) (n := 4) rfl)
theorem dX10_alike_5 : decode cX10_alike 5 = .ok (.aload_n 0, 1) := dq_42 (hz_wg wX10_alike_0 (j := 5) (n := 42) rfl)
theorem dX10_alike_6 : decode cX10_alike 6 = .ok (.getfield 351, 3) := dq_180 (hz_wg wX10_alike_0 (j := 6) (n := 180) rfl) (hz_wg wX10_alike_0 (j := 7) (n := 1) rfl) (hz_wg wX10_alike_0 (j := 8) (n := 95) rfl) rfl
theorem dX10_alike_9 : decode cX10_alike 9 = .ok (.if_icmp .ge 17, 3) := dq_162 (hz_wg wX10_alike_0 (j := 9) (n := 162) rfl) (hz_wg wX10_alike_0 (j := 10) (n := 0) rfl) (hz_wg wX10_alike_0 (j := 11) (n := 17) rfl) (by decide)
theorem dX10_alike_12 : decode cX10_alike 12 = .ok (.aload_n 0, 1) := dq_42 (hz_wg wX10_alike_0 (j := 12) (n := 42) rfl)
theorem dX10_alike_13 : decode cX10_alike 13 = .ok (.getfield 78, 3) := dq_180 (hz_wg wX10_alike_0 (j := 13) (n := 180) rfl) (hz_wg wX10_alike_0 (j := 14) (n := 0) rfl) (hz_wg wX10_alike_0 (j := 15) (n := 78) rfl) rfl
theorem dX10_alike_16 : decode cX10_alike 16 = .ok (.iload 4, 2) := dq_21 (hz_wg wX10_alike_0 (j := 16) (n := 21) rfl) (hz_wg wX10_alike_0 (j := 17) (n := 4) rfl)
theorem dX10_alike_18 : decode cX10_alike 18 = .ok (.iconst 0, 1) := dq_3 (hz_wg wX10_alike_0 (j := 18) (n := 3) rfl)
theorem dX10_alike_19 : decode cX10_alike 19 = .ok (.bastore, 1) := dq_84 (hz_wg wX10_alike_0 (j := 19) (n := 84) rfl)
theorem dX10_alike_20 : decode cX10_alike 20 = .ok (.iinc 4 1, 3) := dq_132 (hz_wg wX10_alike_0 (j := 20) (n := 132) rfl) (hz_wg wX10_alike_0 (j := 21) (n := 4) rfl) (hz_wg wX10_alike_0 (j := 22) (n := 1) rfl) (by decide)
theorem dX10_alike_23 : decode cX10_alike 23 = .ok (.goto (-20), 3) := dq_167 (hz_wg wX10_alike_0 (j := 23) (n := 167) rfl) (hz_wg wX10_alike_0 (j := 24) (n := 255) rfl) (hz_wg wX10_alike_0 (j := 25) (n := 236) rfl) (by decide)
theorem dX10_alike_26 : decode cX10_alike 26 = .ok (.iconst 0, 1) := dq_3 (hz_wg wX10_alike_0 (j := 26) (n := 3) rfl)
theorem dX10_alike_27 : decode cX10_alike 27 = .ok (.istore 4, 2) := dq_54 (hz_wg wX10_alike_0 (j := 27) (n := 54) rfl) (hz_wg wX10_alike_0 (j := 28) (n := 4) rfl)
theorem dX10_alike_29 : decode cX10_alike 29 = .ok (.iconst 0, 1) := dq_3 (hz_wg wX10_alike_0 (j := 29) (n := 3) rfl)
theorem dX10_alike_30 : decode cX10_alike 30 = .ok (.istore 5, 2) := dq_54 (hz_wg wX10_alike_0 (j := 30) (n := 54) rfl) (hz_wg wX10_alike_0 (j := 31) (n := 5) rfl)
theorem dX10_alike_32 : decode cX10_alike 32 = .ok (.iload 5, 2) := dq_21 (hz_wg wX10_alike_0 (j := 32) (n := 21) rfl) (hz_wg wX10_alike_0 (j := 33) (n := 5) rfl)
theorem dX10_alike_34 : decode cX10_alike 34 = .ok (.iload_n 3, 1) := dq_29 (hz_wg wX10_alike_0 (j := 34) (n := 29) rfl)
theorem dX10_alike_35 : decode cX10_alike 35 = .ok (.if_icmp .gt 187, 3) := dq_163 (hz_wg wX10_alike_0 (j := 35) (n := 163) rfl) (hz_wg wX10_alike_0 (j := 36) (n := 0) rfl) (hz_wg wX10_alike_0 (j := 37) (n := 187) rfl) (by decide)
theorem dX10_alike_38 : decode cX10_alike 38 = .ok (.iconst 0, 1) := dq_3 (hz_wg wX10_alike_0 (j := 38) (n := 3) rfl)
theorem dX10_alike_39 : decode cX10_alike 39 = .ok (.istore 6, 2) := dq_54 (hz_wg wX10_alike_0 (j := 39) (n := 54) rfl) (hz_wg wX10_alike_0 (j := 40) (n := 6) rfl)
theorem dX10_alike_41 : decode cX10_alike 41 = .ok (.iload 6, 2) := dq_21 (hz_wg wX10_alike_0 (j := 41) (n := 21) rfl) (hz_wg wX10_alike_0 (j := 42) (n := 6) rfl)
theorem dX10_alike_43 : decode cX10_alike 43 = .ok (.aload_n 0, 1) := dq_42 (hz_wg wX10_alike_0 (j := 43) (n := 42) rfl)
theorem dX10_alike_44 : decode cX10_alike 44 = .ok (.getfield 351, 3) := dq_180 (hz_wg wX10_alike_0 (j := 44) (n := 180) rfl) (hz_wg wX10_alike_0 (j := 45) (n := 1) rfl) (hz_wg wX10_alike_0 (j := 46) (n := 95) rfl) rfl
theorem dX10_alike_47 : decode cX10_alike 47 = .ok (.if_icmp .ge 169, 3) := dq_162 (hz_wg wX10_alike_0 (j := 47) (n := 162) rfl) (hz_wg wX10_alike_0 (j := 48) (n := 0) rfl) (hz_wg wX10_alike_0 (j := 49) (n := 169) rfl) (by decide)
theorem dX10_alike_50 : decode cX10_alike 50 = .ok (.aload_n 0, 1) := dq_42 (hz_wg wX10_alike_0 (j := 50) (n := 42) rfl)
theorem dX10_alike_51 : decode cX10_alike 51 = .ok (.getfield 69, 3) := dq_180 (hz_wg wX10_alike_0 (j := 51) (n := 180) rfl) (hz_wg wX10_alike_0 (j := 52) (n := 0) rfl) (hz_wg wX10_alike_0 (j := 53) (n := 69) rfl) rfl
theorem dX10_alike_54 : decode cX10_alike 54 = .ok (.iload 6, 2) := dq_21 (hz_wg wX10_alike_0 (j := 54) (n := 21) rfl) (hz_wg wX10_alike_0 (j := 55) (n := 6) rfl)
theorem dX10_alike_56 : decode cX10_alike 56 = .ok (.iaload, 1) := dq_46 (hz_wg wX10_alike_0 (j := 56) (n := 46) rfl)
theorem dX10_alike_57 : decode cX10_alike 57 = .ok (.iload 5, 2) := dq_21 (hz_wg wX10_alike_0 (j := 57) (n := 21) rfl) (hz_wg wX10_alike_0 (j := 58) (n := 5) rfl)
theorem dX10_alike_59 : decode cX10_alike 59 = .ok (.if_icmp .ne 151, 3) := dq_160 (hz_wg wX10_alike_0 (j := 59) (n := 160) rfl) (hz_wg wX10_alike_0 (j := 60) (n := 0) rfl) (hz_wg wX10_alike_0 (j := 61) (n := 151) rfl) (by decide)
theorem dX10_alike_62 : decode cX10_alike 62 = .ok (.aload_n 0, 1) := dq_42 (hz_wg wX10_alike_0 (j := 62) (n := 42) rfl)
theorem dX10_alike_63 : decode cX10_alike 63 = .ok (.getfield 63, 3) := dq_180 (hz_wg wX10_alike_0 (j := 63) (n := 180) rfl) (hz_wg wX10_alike_1 (j := 0) (n := 0) rfl) (hz_wg wX10_alike_1 (j := 1) (n := 63) rfl) rfl
theorem dX10_alike_66 : decode cX10_alike 66 = .ok (.iload 6, 2) := dq_21 (hz_wg wX10_alike_1 (j := 2) (n := 21) rfl) (hz_wg wX10_alike_1 (j := 3) (n := 6) rfl)
theorem dX10_alike_68 : decode cX10_alike 68 = .ok (.iaload, 1) := dq_46 (hz_wg wX10_alike_1 (j := 4) (n := 46) rfl)
theorem dX10_alike_69 : decode cX10_alike 69 = .ok (.iload_n 1, 1) := dq_27 (hz_wg wX10_alike_1 (j := 5) (n := 27) rfl)
theorem dX10_alike_70 : decode cX10_alike 70 = .ok (.if_icmp .ne 140, 3) := dq_160 (hz_wg wX10_alike_1 (j := 6) (n := 160) rfl) (hz_wg wX10_alike_1 (j := 7) (n := 0) rfl) (hz_wg wX10_alike_1 (j := 8) (n := 140) rfl) (by decide)
theorem dX10_alike_73 : decode cX10_alike 73 = .ok (.aload_n 0, 1) := dq_42 (hz_wg wX10_alike_1 (j := 9) (n := 42) rfl)
theorem dX10_alike_74 : decode cX10_alike 74 = .ok (.getfield 66, 3) := dq_180 (hz_wg wX10_alike_1 (j := 10) (n := 180) rfl) (hz_wg wX10_alike_1 (j := 11) (n := 0) rfl) (hz_wg wX10_alike_1 (j := 12) (n := 66) rfl) rfl
theorem dX10_alike_77 : decode cX10_alike 77 = .ok (.iload 6, 2) := dq_21 (hz_wg wX10_alike_1 (j := 13) (n := 21) rfl) (hz_wg wX10_alike_1 (j := 14) (n := 6) rfl)
theorem dX10_alike_79 : decode cX10_alike 79 = .ok (.iaload, 1) := dq_46 (hz_wg wX10_alike_1 (j := 15) (n := 46) rfl)
theorem dX10_alike_80 : decode cX10_alike 80 = .ok (.iload_n 2, 1) := dq_28 (hz_wg wX10_alike_1 (j := 16) (n := 28) rfl)
theorem dX10_alike_81 : decode cX10_alike 81 = .ok (.if_icmp .eq 6, 3) := dq_159 (hz_wg wX10_alike_1 (j := 17) (n := 159) rfl) (hz_wg wX10_alike_1 (j := 18) (n := 0) rfl) (hz_wg wX10_alike_1 (j := 19) (n := 6) rfl) (by decide)
theorem dX10_alike_84 : decode cX10_alike 84 = .ok (.goto 126, 3) := dq_167 (hz_wg wX10_alike_1 (j := 20) (n := 167) rfl) (hz_wg wX10_alike_1 (j := 21) (n := 0) rfl) (hz_wg wX10_alike_1 (j := 22) (n := 126) rfl) (by decide)
theorem dX10_alike_87 : decode cX10_alike 87 = .ok (.iconst (-1), 1) := dq_2 (hz_wg wX10_alike_1 (j := 23) (n := 2) rfl)
theorem dX10_alike_88 : decode cX10_alike 88 = .ok (.istore 7, 2) := dq_54 (hz_wg wX10_alike_1 (j := 24) (n := 54) rfl) (hz_wg wX10_alike_1 (j := 25) (n := 7) rfl)
theorem dX10_alike_90 : decode cX10_alike 90 = .ok (.iconst 0, 1) := dq_3 (hz_wg wX10_alike_1 (j := 26) (n := 3) rfl)
theorem dX10_alike_91 : decode cX10_alike 91 = .ok (.istore 8, 2) := dq_54 (hz_wg wX10_alike_1 (j := 27) (n := 54) rfl) (hz_wg wX10_alike_1 (j := 28) (n := 8) rfl)
theorem dX10_alike_93 : decode cX10_alike 93 = .ok (.iload 8, 2) := dq_21 (hz_wg wX10_alike_1 (j := 29) (n := 21) rfl) (hz_wg wX10_alike_1 (j := 30) (n := 8) rfl)
theorem dX10_alike_95 : decode cX10_alike 95 = .ok (.aload_n 0, 1) := dq_42 (hz_wg wX10_alike_1 (j := 31) (n := 42) rfl)
theorem dX10_alike_96 : decode cX10_alike 96 = .ok (.getfield 351, 3) := dq_180 (hz_wg wX10_alike_1 (j := 32) (n := 180) rfl) (hz_wg wX10_alike_1 (j := 33) (n := 1) rfl) (hz_wg wX10_alike_1 (j := 34) (n := 95) rfl) rfl
theorem dX10_alike_99 : decode cX10_alike 99 = .ok (.if_icmp .ge 92, 3) := dq_162 (hz_wg wX10_alike_1 (j := 35) (n := 162) rfl) (hz_wg wX10_alike_1 (j := 36) (n := 0) rfl) (hz_wg wX10_alike_1 (j := 37) (n := 92) rfl) (by decide)
theorem dX10_alike_102 : decode cX10_alike 102 = .ok (.aload_n 0, 1) := dq_42 (hz_wg wX10_alike_1 (j := 38) (n := 42) rfl)
theorem dX10_alike_103 : decode cX10_alike 103 = .ok (.getfield 78, 3) := dq_180 (hz_wg wX10_alike_1 (j := 39) (n := 180) rfl) (hz_wg wX10_alike_1 (j := 40) (n := 0) rfl) (hz_wg wX10_alike_1 (j := 41) (n := 78) rfl) rfl
theorem dX10_alike_106 : decode cX10_alike 106 = .ok (.iload 8, 2) := dq_21 (hz_wg wX10_alike_1 (j := 42) (n := 21) rfl) (hz_wg wX10_alike_1 (j := 43) (n := 8) rfl)
theorem dX10_alike_108 : decode cX10_alike 108 = .ok (.baload, 1) := dq_51 (hz_wg wX10_alike_1 (j := 44) (n := 51) rfl)
theorem dX10_alike_109 : decode cX10_alike 109 = .ok (.ifCond .ne 76, 3) := dq_154 (hz_wg wX10_alike_1 (j := 45) (n := 154) rfl) (hz_wg wX10_alike_1 (j := 46) (n := 0) rfl) (hz_wg wX10_alike_1 (j := 47) (n := 76) rfl) (by decide)
theorem dX10_alike_112 : decode cX10_alike 112 = .ok (.aload_n 0, 1) := dq_42 (hz_wg wX10_alike_1 (j := 48) (n := 42) rfl)
theorem dX10_alike_113 : decode cX10_alike 113 = .ok (.getfield 63, 3) := dq_180 (hz_wg wX10_alike_1 (j := 49) (n := 180) rfl) (hz_wg wX10_alike_1 (j := 50) (n := 0) rfl) (hz_wg wX10_alike_1 (j := 51) (n := 63) rfl) rfl
theorem dX10_alike_116 : decode cX10_alike 116 = .ok (.iload 8, 2) := dq_21 (hz_wg wX10_alike_1 (j := 52) (n := 21) rfl) (hz_wg wX10_alike_1 (j := 53) (n := 8) rfl)
theorem dX10_alike_118 : decode cX10_alike 118 = .ok (.iaload, 1) := dq_46 (hz_wg wX10_alike_1 (j := 54) (n := 46) rfl)
theorem dX10_alike_119 : decode cX10_alike 119 = .ok (.iload_n 2, 1) := dq_28 (hz_wg wX10_alike_1 (j := 55) (n := 28) rfl)
theorem dX10_alike_120 : decode cX10_alike 120 = .ok (.if_icmp .ne 65, 3) := dq_160 (hz_wg wX10_alike_1 (j := 56) (n := 160) rfl) (hz_wg wX10_alike_1 (j := 57) (n := 0) rfl) (hz_wg wX10_alike_1 (j := 58) (n := 65) rfl) (by decide)
theorem dX10_alike_123 : decode cX10_alike 123 = .ok (.aload_n 0, 1) := dq_42 (hz_wg wX10_alike_1 (j := 59) (n := 42) rfl)
theorem dX10_alike_124 : decode cX10_alike 124 = .ok (.getfield 66, 3) := dq_180 (hz_wg wX10_alike_1 (j := 60) (n := 180) rfl) (hz_wg wX10_alike_1 (j := 61) (n := 0) rfl) (hz_wg wX10_alike_1 (j := 62) (n := 66) rfl) rfl
theorem dX10_alike_127 : decode cX10_alike 127 = .ok (.iload 8, 2) := dq_21 (hz_wg wX10_alike_1 (j := 63) (n := 21) rfl) (hz_wg wX10_alike_2 (j := 0) (n := 8) rfl)
theorem dX10_alike_129 : decode cX10_alike 129 = .ok (.iaload, 1) := dq_46 (hz_wg wX10_alike_2 (j := 1) (n := 46) rfl)
theorem dX10_alike_130 : decode cX10_alike 130 = .ok (.iload_n 1, 1) := dq_27 (hz_wg wX10_alike_2 (j := 2) (n := 27) rfl)
theorem dX10_alike_131 : decode cX10_alike 131 = .ok (.if_icmp .ne 54, 3) := dq_160 (hz_wg wX10_alike_2 (j := 3) (n := 160) rfl) (hz_wg wX10_alike_2 (j := 4) (n := 0) rfl) (hz_wg wX10_alike_2 (j := 5) (n := 54) rfl) (by decide)
theorem dX10_alike_134 : decode cX10_alike 134 = .ok (.aload_n 0, 1) := dq_42 (hz_wg wX10_alike_2 (j := 6) (n := 42) rfl)
theorem dX10_alike_135 : decode cX10_alike 135 = .ok (.getfield 69, 3) := dq_180 (hz_wg wX10_alike_2 (j := 7) (n := 180) rfl) (hz_wg wX10_alike_2 (j := 8) (n := 0) rfl) (hz_wg wX10_alike_2 (j := 9) (n := 69) rfl) rfl
theorem dX10_alike_138 : decode cX10_alike 138 = .ok (.iload 8, 2) := dq_21 (hz_wg wX10_alike_2 (j := 10) (n := 21) rfl) (hz_wg wX10_alike_2 (j := 11) (n := 8) rfl)
theorem dX10_alike_140 : decode cX10_alike 140 = .ok (.iaload, 1) := dq_46 (hz_wg wX10_alike_2 (j := 12) (n := 46) rfl)
theorem dX10_alike_141 : decode cX10_alike 141 = .ok (.iload_n 3, 1) := dq_29 (hz_wg wX10_alike_2 (j := 13) (n := 29) rfl)
theorem dX10_alike_142 : decode cX10_alike 142 = .ok (.if_icmp .gt 43, 3) := dq_163 (hz_wg wX10_alike_2 (j := 14) (n := 163) rfl) (hz_wg wX10_alike_2 (j := 15) (n := 0) rfl) (hz_wg wX10_alike_2 (j := 16) (n := 43) rfl) (by decide)
theorem dX10_alike_145 : decode cX10_alike 145 = .ok (.aload_n 0, 1) := dq_42 (hz_wg wX10_alike_2 (j := 17) (n := 42) rfl)
theorem dX10_alike_146 : decode cX10_alike 146 = .ok (.iload 6, 2) := dq_21 (hz_wg wX10_alike_2 (j := 18) (n := 21) rfl) (hz_wg wX10_alike_2 (j := 19) (n := 6) rfl)
theorem dX10_alike_148 : decode cX10_alike 148 = .ok (.iload 8, 2) := dq_21 (hz_wg wX10_alike_2 (j := 20) (n := 21) rfl) (hz_wg wX10_alike_2 (j := 21) (n := 8) rfl)
theorem dX10_alike_150 : decode cX10_alike 150 = .ok (.invokevirtual 354, 3) := dq_182 (hz_wg wX10_alike_2 (j := 22) (n := 182) rfl) (hz_wg wX10_alike_2 (j := 23) (n := 1) rfl) (hz_wg wX10_alike_2 (j := 24) (n := 98) rfl) rfl
theorem dX10_alike_153 : decode cX10_alike 153 = .ok (.ifCond .ne 6, 3) := dq_154 (hz_wg wX10_alike_2 (j := 25) (n := 154) rfl) (hz_wg wX10_alike_2 (j := 26) (n := 0) rfl) (hz_wg wX10_alike_2 (j := 27) (n := 6) rfl) (by decide)
theorem dX10_alike_156 : decode cX10_alike 156 = .ok (.goto 29, 3) := dq_167 (hz_wg wX10_alike_2 (j := 28) (n := 167) rfl) (hz_wg wX10_alike_2 (j := 29) (n := 0) rfl) (hz_wg wX10_alike_2 (j := 30) (n := 29) rfl) (by decide)
theorem dX10_alike_159 : decode cX10_alike 159 = .ok (.iload 7, 2) := dq_21 (hz_wg wX10_alike_2 (j := 31) (n := 21) rfl) (hz_wg wX10_alike_2 (j := 32) (n := 7) rfl)
theorem dX10_alike_161 : decode cX10_alike 161 = .ok (.ifCond .lt 20, 3) := dq_155 (hz_wg wX10_alike_2 (j := 33) (n := 155) rfl) (hz_wg wX10_alike_2 (j := 34) (n := 0) rfl) (hz_wg wX10_alike_2 (j := 35) (n := 20) rfl) (by decide)
theorem dX10_alike_164 : decode cX10_alike 164 = .ok (.aload_n 0, 1) := dq_42 (hz_wg wX10_alike_2 (j := 36) (n := 42) rfl)
theorem dX10_alike_165 : decode cX10_alike 165 = .ok (.getfield 69, 3) := dq_180 (hz_wg wX10_alike_2 (j := 37) (n := 180) rfl) (hz_wg wX10_alike_2 (j := 38) (n := 0) rfl) (hz_wg wX10_alike_2 (j := 39) (n := 69) rfl) rfl
theorem dX10_alike_168 : decode cX10_alike 168 = .ok (.iload 8, 2) := dq_21 (hz_wg wX10_alike_2 (j := 40) (n := 21) rfl) (hz_wg wX10_alike_2 (j := 41) (n := 8) rfl)
theorem dX10_alike_170 : decode cX10_alike 170 = .ok (.iaload, 1) := dq_46 (hz_wg wX10_alike_2 (j := 42) (n := 46) rfl)
theorem dX10_alike_171 : decode cX10_alike 171 = .ok (.aload_n 0, 1) := dq_42 (hz_wg wX10_alike_2 (j := 43) (n := 42) rfl)
theorem dX10_alike_172 : decode cX10_alike 172 = .ok (.getfield 69, 3) := dq_180 (hz_wg wX10_alike_2 (j := 44) (n := 180) rfl) (hz_wg wX10_alike_2 (j := 45) (n := 0) rfl) (hz_wg wX10_alike_2 (j := 46) (n := 69) rfl) rfl
theorem dX10_alike_175 : decode cX10_alike 175 = .ok (.iload 7, 2) := dq_21 (hz_wg wX10_alike_2 (j := 47) (n := 21) rfl) (hz_wg wX10_alike_2 (j := 48) (n := 7) rfl)
theorem dX10_alike_177 : decode cX10_alike 177 = .ok (.iaload, 1) := dq_46 (hz_wg wX10_alike_2 (j := 49) (n := 46) rfl)
theorem dX10_alike_178 : decode cX10_alike 178 = .ok (.if_icmp .ge 7, 3) := dq_162 (hz_wg wX10_alike_2 (j := 50) (n := 162) rfl) (hz_wg wX10_alike_2 (j := 51) (n := 0) rfl) (hz_wg wX10_alike_2 (j := 52) (n := 7) rfl) (by decide)
theorem dX10_alike_181 : decode cX10_alike 181 = .ok (.iload 8, 2) := dq_21 (hz_wg wX10_alike_2 (j := 53) (n := 21) rfl) (hz_wg wX10_alike_2 (j := 54) (n := 8) rfl)
theorem dX10_alike_183 : decode cX10_alike 183 = .ok (.istore 7, 2) := dq_54 (hz_wg wX10_alike_2 (j := 55) (n := 54) rfl) (hz_wg wX10_alike_2 (j := 56) (n := 7) rfl)
theorem dX10_alike_185 : decode cX10_alike 185 = .ok (.iinc 8 1, 3) := dq_132 (hz_wg wX10_alike_2 (j := 57) (n := 132) rfl) (hz_wg wX10_alike_2 (j := 58) (n := 8) rfl) (hz_wg wX10_alike_2 (j := 59) (n := 1) rfl) (by decide)
theorem dX10_alike_188 : decode cX10_alike 188 = .ok (.goto (-95), 3) := dq_167 (hz_wg wX10_alike_2 (j := 60) (n := 167) rfl) (hz_wg wX10_alike_2 (j := 61) (n := 255) rfl) (hz_wg wX10_alike_2 (j := 62) (n := 161) rfl) (by decide)
theorem dX10_alike_191 : decode cX10_alike 191 = .ok (.iload 7, 2) := dq_21 (hz_wg wX10_alike_2 (j := 63) (n := 21) rfl) (hz_wg wX10_alike_3 (j := 0) (n := 7) rfl)
theorem dX10_alike_193 : decode cX10_alike 193 = .ok (.ifCond .ge 6, 3) := dq_156 (hz_wg wX10_alike_3 (j := 1) (n := 156) rfl) (hz_wg wX10_alike_3 (j := 2) (n := 0) rfl) (hz_wg wX10_alike_3 (j := 3) (n := 6) rfl) (by decide)
theorem dX10_alike_196 : decode cX10_alike 196 = .ok (.goto 14, 3) := dq_167 (hz_wg wX10_alike_3 (j := 4) (n := 167) rfl) (hz_wg wX10_alike_3 (j := 5) (n := 0) rfl) (hz_wg wX10_alike_3 (j := 6) (n := 14) rfl) (by decide)
theorem dX10_alike_199 : decode cX10_alike 199 = .ok (.aload_n 0, 1) := dq_42 (hz_wg wX10_alike_3 (j := 7) (n := 42) rfl)
theorem dX10_alike_200 : decode cX10_alike 200 = .ok (.getfield 78, 3) := dq_180 (hz_wg wX10_alike_3 (j := 8) (n := 180) rfl) (hz_wg wX10_alike_3 (j := 9) (n := 0) rfl) (hz_wg wX10_alike_3 (j := 10) (n := 78) rfl) rfl
theorem dX10_alike_203 : decode cX10_alike 203 = .ok (.iload 7, 2) := dq_21 (hz_wg wX10_alike_3 (j := 11) (n := 21) rfl) (hz_wg wX10_alike_3 (j := 12) (n := 7) rfl)
theorem dX10_alike_205 : decode cX10_alike 205 = .ok (.iconst 1, 1) := dq_4 (hz_wg wX10_alike_3 (j := 13) (n := 4) rfl)
theorem dX10_alike_206 : decode cX10_alike 206 = .ok (.bastore, 1) := dq_84 (hz_wg wX10_alike_3 (j := 14) (n := 84) rfl)
theorem dX10_alike_207 : decode cX10_alike 207 = .ok (.iinc 4 1, 3) := dq_132 (hz_wg wX10_alike_3 (j := 15) (n := 132) rfl) (hz_wg wX10_alike_3 (j := 16) (n := 4) rfl) (hz_wg wX10_alike_3 (j := 17) (n := 1) rfl) (by decide)
theorem dX10_alike_210 : decode cX10_alike 210 = .ok (.iinc 6 1, 3) := dq_132 (hz_wg wX10_alike_3 (j := 18) (n := 132) rfl) (hz_wg wX10_alike_3 (j := 19) (n := 6) rfl) (hz_wg wX10_alike_3 (j := 20) (n := 1) rfl) (by decide)
theorem dX10_alike_213 : decode cX10_alike 213 = .ok (.goto (-172), 3) := dq_167 (hz_wg wX10_alike_3 (j := 21) (n := 167) rfl) (hz_wg wX10_alike_3 (j := 22) (n := 255) rfl) (hz_wg wX10_alike_3 (j := 23) (n := 84) rfl) (by decide)
theorem dX10_alike_216 : decode cX10_alike 216 = .ok (.iinc 5 1, 3) := dq_132 (hz_wg wX10_alike_3 (j := 24) (n := 132) rfl) (hz_wg wX10_alike_3 (j := 25) (n := 5) rfl) (hz_wg wX10_alike_3 (j := 26) (n := 1) rfl) (by decide)
theorem dX10_alike_219 : decode cX10_alike 219 = .ok (.goto (-187), 3) := dq_167 (hz_wg wX10_alike_3 (j := 27) (n := 167) rfl) (hz_wg wX10_alike_3 (j := 28) (n := 255) rfl) (hz_wg wX10_alike_3 (j := 29) (n := 69) rfl) (by decide)
theorem dX10_alike_222 : decode cX10_alike 222 = .ok (.iload 4, 2) := dq_21 (hz_wg wX10_alike_3 (j := 30) (n := 21) rfl) (hz_wg wX10_alike_3 (j := 31) (n := 4) rfl)
theorem dX10_alike_224 : decode cX10_alike 224 = .ok (.ireturn, 1) := dq_172 (hz_wg wX10_alike_3 (j := 32) (n := 172) rfl)
def wLX10_book_0 : List Nat := [42, 27, 182, 1, 92, 153, 0, 23, 42, 28, 182, 1, 92, 153, 0, 15, 27, 28, 159, 0, 10, 29, 184, 1, 68, 154, 0, 7, 19, 1, 101, 172, 21, 4, 154, 0, 13, 42, 27, 28, 29, 182, 1, 102, 167, 0, 36, 21, 4, 4, 160, 0, 13, 42, 27, 28, 29, 182, 1, 105, 167, 0, 20, 21]
def wLX10_book_1 : List Nat := [4, 5, 160, 0, 11, 42, 27, 182, 1, 108, 167, 0, 6, 19, 1, 101, 172]
theorem wX10_book_0 : (cX10_book.data.toList.map UInt8.toNat).drop 0 = wLX10_book_0 ++ (wLX10_book_1 ++ ([])) := by decide +kernel
theorem wX10_book_1 : (cX10_book.data.toList.map UInt8.toNat).drop 64 = wLX10_book_1 ++ ([]) := hz_wn wX10_book_0 rfl
theorem dX10_book_0 : decode cX10_book 0 = .ok (.aload_n 0, 1) := dq_42 (hz_wg wX10_book_0 (j := 0) (n := 42) rfl)
theorem dX10_book_1 : decode cX10_book 1 = .ok (.iload_n 1, 1) := dq_27 (hz_wg wX10_book_0 (j := 1) (n := 27) rfl)
theorem dX10_book_2 : decode cX10_book 2 = .ok (.invokevirtual 348, 3) := dq_182 (hz_wg wX10_book_0 (j := 2) (n := 182) rfl) (hz_wg wX10_book_0 (j := 3) (n := 1) rfl) (hz_wg wX10_book_0 (j := 4) (n := 92) rfl) rfl
theorem dX10_book_5 : decode cX10_book 5 = .ok (.ifCond .eq 23, 3) := dq_153 (hz_wg wX10_book_0 (j := 5) (n := 153) rfl) (hz_wg wX10_book_0 (j := 6) (n := 0) rfl) (hz_wg wX10_book_0 (j := 7) (n := 23) rfl) (by decide)
theorem dX10_book_8 : decode cX10_book 8 = .ok (.aload_n 0, 1) := dq_42 (hz_wg wX10_book_0 (j := 8) (n := 42) rfl)
theorem dX10_book_9 : decode cX10_book 9 = .ok (.iload_n 2, 1) := dq_28 (hz_wg wX10_book_0 (j := 9) (n := 28) rfl)
theorem dX10_book_10 : decode cX10_book 10 = .ok (.invokevirtual 348, 3) := dq_182 (hz_wg wX10_book_0 (j := 10) (n := 182) rfl) (hz_wg wX10_book_0 (j := 11) (n := 1) rfl) (hz_wg wX10_book_0 (j := 12) (n := 92) rfl) rfl
theorem dX10_book_13 : decode cX10_book 13 = .ok (.ifCond .eq 15, 3) := dq_153 (hz_wg wX10_book_0 (j := 13) (n := 153) rfl) (hz_wg wX10_book_0 (j := 14) (n := 0) rfl) (hz_wg wX10_book_0 (j := 15) (n := 15) rfl) (by decide)
theorem dX10_book_16 : decode cX10_book 16 = .ok (.iload_n 1, 1) := dq_27 (hz_wg wX10_book_0 (j := 16) (n := 27) rfl)
theorem dX10_book_17 : decode cX10_book 17 = .ok (.iload_n 2, 1) := dq_28 (hz_wg wX10_book_0 (j := 17) (n := 28) rfl)
theorem dX10_book_18 : decode cX10_book 18 = .ok (.if_icmp .eq 10, 3) := dq_159 (hz_wg wX10_book_0 (j := 18) (n := 159) rfl) (hz_wg wX10_book_0 (j := 19) (n := 0) rfl) (hz_wg wX10_book_0 (j := 20) (n := 10) rfl) (by decide)
theorem dX10_book_21 : decode cX10_book 21 = .ok (.iload_n 3, 1) := dq_29 (hz_wg wX10_book_0 (j := 21) (n := 29) rfl)
theorem dX10_book_22 : decode cX10_book 22 = .ok (.invokestatic 324, 3) := dq_184 (hz_wg wX10_book_0 (j := 22) (n := 184) rfl) (hz_wg wX10_book_0 (j := 23) (n := 1) rfl) (hz_wg wX10_book_0 (j := 24) (n := 68) rfl) rfl
theorem dX10_book_25 : decode cX10_book 25 = .ok (.ifCond .ne 7, 3) := dq_154 (hz_wg wX10_book_0 (j := 25) (n := 154) rfl) (hz_wg wX10_book_0 (j := 26) (n := 0) rfl) (hz_wg wX10_book_0 (j := 27) (n := 7) rfl) (by decide)
theorem dX10_book_28 : decode cX10_book 28 = .ok (.ldc_w 357, 3) := dq_19 (hz_wg wX10_book_0 (j := 28) (n := 19) rfl) (hz_wg wX10_book_0 (j := 29) (n := 1) rfl) (hz_wg wX10_book_0 (j := 30) (n := 101) rfl) rfl
theorem dX10_book_31 : decode cX10_book 31 = .ok (.ireturn, 1) := dq_172 (hz_wg wX10_book_0 (j := 31) (n := 172) rfl)
theorem dX10_book_32 : decode cX10_book 32 = .ok (.iload 4, 2) := dq_21 (hz_wg wX10_book_0 (j := 32) (n := 21) rfl) (hz_wg wX10_book_0 (j := 33) (n := 4) rfl)
theorem dX10_book_34 : decode cX10_book 34 = .ok (.ifCond .ne 13, 3) := dq_154 (hz_wg wX10_book_0 (j := 34) (n := 154) rfl) (hz_wg wX10_book_0 (j := 35) (n := 0) rfl) (hz_wg wX10_book_0 (j := 36) (n := 13) rfl) (by decide)
theorem dX10_book_37 : decode cX10_book 37 = .ok (.aload_n 0, 1) := dq_42 (hz_wg wX10_book_0 (j := 37) (n := 42) rfl)
theorem dX10_book_38 : decode cX10_book 38 = .ok (.iload_n 1, 1) := dq_27 (hz_wg wX10_book_0 (j := 38) (n := 27) rfl)
theorem dX10_book_39 : decode cX10_book 39 = .ok (.iload_n 2, 1) := dq_28 (hz_wg wX10_book_0 (j := 39) (n := 28) rfl)
theorem dX10_book_40 : decode cX10_book 40 = .ok (.iload_n 3, 1) := dq_29 (hz_wg wX10_book_0 (j := 40) (n := 29) rfl)
theorem dX10_book_41 : decode cX10_book 41 = .ok (.invokevirtual 358, 3) := dq_182 (hz_wg wX10_book_0 (j := 41) (n := 182) rfl) (hz_wg wX10_book_0 (j := 42) (n := 1) rfl) (hz_wg wX10_book_0 (j := 43) (n := 102) rfl) rfl
theorem dX10_book_44 : decode cX10_book 44 = .ok (.goto 36, 3) := dq_167 (hz_wg wX10_book_0 (j := 44) (n := 167) rfl) (hz_wg wX10_book_0 (j := 45) (n := 0) rfl) (hz_wg wX10_book_0 (j := 46) (n := 36) rfl) (by decide)
theorem dX10_book_47 : decode cX10_book 47 = .ok (.iload 4, 2) := dq_21 (hz_wg wX10_book_0 (j := 47) (n := 21) rfl) (hz_wg wX10_book_0 (j := 48) (n := 4) rfl)
theorem dX10_book_49 : decode cX10_book 49 = .ok (.iconst 1, 1) := dq_4 (hz_wg wX10_book_0 (j := 49) (n := 4) rfl)
theorem dX10_book_50 : decode cX10_book 50 = .ok (.if_icmp .ne 13, 3) := dq_160 (hz_wg wX10_book_0 (j := 50) (n := 160) rfl) (hz_wg wX10_book_0 (j := 51) (n := 0) rfl) (hz_wg wX10_book_0 (j := 52) (n := 13) rfl) (by decide)
theorem dX10_book_53 : decode cX10_book 53 = .ok (.aload_n 0, 1) := dq_42 (hz_wg wX10_book_0 (j := 53) (n := 42) rfl)
theorem dX10_book_54 : decode cX10_book 54 = .ok (.iload_n 1, 1) := dq_27 (hz_wg wX10_book_0 (j := 54) (n := 27) rfl)
theorem dX10_book_55 : decode cX10_book 55 = .ok (.iload_n 2, 1) := dq_28 (hz_wg wX10_book_0 (j := 55) (n := 28) rfl)
theorem dX10_book_56 : decode cX10_book 56 = .ok (.iload_n 3, 1) := dq_29 (hz_wg wX10_book_0 (j := 56) (n := 29) rfl)
theorem dX10_book_57 : decode cX10_book 57 = .ok (.invokevirtual 361, 3) := dq_182 (hz_wg wX10_book_0 (j := 57) (n := 182) rfl) (hz_wg wX10_book_0 (j := 58) (n := 1) rfl) (hz_wg wX10_book_0 (j := 59) (n := 105) rfl) rfl
theorem dX10_book_60 : decode cX10_book 60 = .ok (.goto 20, 3) := dq_167 (hz_wg wX10_book_0 (j := 60) (n := 167) rfl) (hz_wg wX10_book_0 (j := 61) (n := 0) rfl) (hz_wg wX10_book_0 (j := 62) (n := 20) rfl) (by decide)
theorem dX10_book_63 : decode cX10_book 63 = .ok (.iload 4, 2) := dq_21 (hz_wg wX10_book_0 (j := 63) (n := 21) rfl) (hz_wg wX10_book_1 (j := 0) (n := 4) rfl)
theorem dX10_book_65 : decode cX10_book 65 = .ok (.iconst 2, 1) := dq_5 (hz_wg wX10_book_1 (j := 1) (n := 5) rfl)
theorem dX10_book_66 : decode cX10_book 66 = .ok (.if_icmp .ne 11, 3) := dq_160 (hz_wg wX10_book_1 (j := 2) (n := 160) rfl) (hz_wg wX10_book_1 (j := 3) (n := 0) rfl) (hz_wg wX10_book_1 (j := 4) (n := 11) rfl) (by decide)
theorem dX10_book_69 : decode cX10_book 69 = .ok (.aload_n 0, 1) := dq_42 (hz_wg wX10_book_1 (j := 5) (n := 42) rfl)
theorem dX10_book_70 : decode cX10_book 70 = .ok (.iload_n 1, 1) := dq_27 (hz_wg wX10_book_1 (j := 6) (n := 27) rfl)
theorem dX10_book_71 : decode cX10_book 71 = .ok (.invokevirtual 364, 3) := dq_182 (hz_wg wX10_book_1 (j := 7) (n := 182) rfl) (hz_wg wX10_book_1 (j := 8) (n := 1) rfl) (hz_wg wX10_book_1 (j := 9) (n := 108) rfl) rfl
theorem dX10_book_74 : decode cX10_book 74 = .ok (.goto 6, 3) := dq_167 (hz_wg wX10_book_1 (j := 10) (n := 167) rfl) (hz_wg wX10_book_1 (j := 11) (n := 0) rfl) (hz_wg wX10_book_1 (j := 12) (n := 6) rfl) (by decide)
theorem dX10_book_77 : decode cX10_book 77 = .ok (.ldc_w 357, 3) := dq_19 (hz_wg wX10_book_1 (j := 13) (n := 19) rfl) (hz_wg wX10_book_1 (j := 14) (n := 1) rfl) (hz_wg wX10_book_1 (j := 15) (n := 101) rfl) rfl
theorem dX10_book_80 : decode cX10_book 80 = .ok (.ireturn, 1) := dq_172 (hz_wg wX10_book_1 (j := 16) (n := 172) rfl)