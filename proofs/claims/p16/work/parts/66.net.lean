def wLX10_net_0 : List Nat := [42, 4, 181, 1, 195, 42, 3, 181, 1, 199, 3, 60, 4, 61, 28, 153, 0, 183, 42, 182, 1, 202, 42, 182, 1, 205, 3, 62, 3, 54, 4, 21, 4, 42, 180, 1, 185, 162, 0, 42, 29, 42, 42, 180, 0, 195, 21, 4, 46, 42, 180, 0, 195, 21, 4, 4, 96, 42, 180, 1, 185, 112, 46, 42]
def wLX10_net_1 : List Nat := [180, 1, 182, 3, 182, 1, 208, 96, 62, 132, 4, 1, 167, 255, 211, 42, 180, 1, 185, 158, 0, 19, 42, 180, 1, 157, 29, 96, 17, 2, 88, 163, 0, 7, 4, 167, 0, 4, 3, 61, 28, 154, 0, 6, 167, 0, 90, 3, 54, 4, 21, 4, 42, 180, 1, 185, 162, 0, 40, 42, 42, 180, 0, 195]
def wLX10_net_2 : List Nat := [21, 4, 46, 42, 180, 0, 195, 21, 4, 4, 96, 42, 180, 1, 185, 112, 46, 42, 180, 1, 182, 4, 182, 1, 208, 87, 132, 4, 1, 167, 255, 213, 42, 180, 0, 192, 42, 180, 1, 199, 42, 180, 1, 182, 79, 42, 89, 180, 1, 199, 4, 96, 181, 1, 199, 27, 42, 180, 1, 182, 42, 180, 1, 185]
def wLX10_net_3 : List Nat := [104, 96, 60, 167, 255, 75, 27, 172]
theorem wX10_net_0 : (cX10_net.data.toList.map UInt8.toNat).drop 0 = wLX10_net_0 ++ (wLX10_net_1 ++ (wLX10_net_2 ++ (wLX10_net_3 ++ ([])))) := by decide +kernel
theorem wX10_net_1 : (cX10_net.data.toList.map UInt8.toNat).drop 64 = wLX10_net_1 ++ (wLX10_net_2 ++ (wLX10_net_3 ++ ([]))) := hz_wn wX10_net_0 rfl
theorem wX10_net_2 : (cX10_net.data.toList.map UInt8.toNat).drop 128 = wLX10_net_2 ++ (wLX10_net_3 ++ ([])) := hz_wn wX10_net_1 rfl
theorem wX10_net_3 : (cX10_net.data.toList.map UInt8.toNat).drop 192 = wLX10_net_3 ++ ([]) := hz_wn wX10_net_2 rfl
theorem dX10_net_0 : decode cX10_net 0 = .ok (.aload_n 0, 1) := dq_42 (hz_wg wX10_net_0 (j := 0) (n := 42) rfl)
theorem dX10_net_1 : decode cX10_net 1 = .ok (.iconst 1, 1) := dq_4 (hz_wg wX10_net_0 (j := 1) (n := 4) rfl)
theorem dX10_net_2 : decode cX10_net 2 = .ok (.putfield 451, 3) := dq_181 (hz_wg wX10_net_0 (j := 2) (n := 181) rfl) (hz_wg wX10_net_0 (j := 3) (n := 1) rfl) (hz_wg wX10_net_0 (j := 4) (n := 195) rfl) rfl
theorem dX10_net_5 : decode cX10_net 5 = .ok (.aload_n 0, 1) := dq_42 (hz_wg wX10_net_0 (j := 5) (n := 42) rfl)
theorem dX10_net_6 : decode cX10_net 6 = .ok (.iconst 0, 1) := dq_3 (hz_wg wX10_net_0 (j := 6) (n := 3) rfl)
theorem dX10_net_7 : decode cX10_net 7 = .ok (.putfield 455, 3) := dq_181 (hz_wg wX10_net_0 (j := 7) (n := 181) rfl) (hz_wg wX10_net_0 (j := 8) (n := 1) rfl) (hz_wg wX10_net_0 (j := 9) (n := 199) rfl) rfl
theorem dX10_net_10 : decode cX10_net 10 = .ok (.iconst 0, 1) := dq_3 (hz_wg wX10_net_0 (j := 10) (n := 3) rfl)
theorem dX10_net_11 : decode cX10_net 11 = .ok (.istore_n 1, 1) := dq_60 (hz_wg wX10_net_0 (j := 11) (n := 60) rfl)
theorem dX10_net_12 : decode cX10_net 12 = .ok (.iconst 1, 1) := dq_4 (hz_wg wX10_net_0 (j := 12) (n := 4) rfl)
theorem dX10_net_13 : decode cX10_net 13 = .ok (.istore_n 2, 1) := dq_61 (hz_wg wX10_net_0 (j := 13) (n := 61) rfl)
theorem dX10_net_14 : decode cX10_net 14 = .ok (.iload_n 2, 1) := dq_28 (hz_wg wX10_net_0 (j := 14) (n := 28) rfl)
theorem dX10_net_15 : decode cX10_net 15 = .ok (.ifCond .eq 183, 3) := dq_153 (hz_wg wX10_net_0 (j := 15) (n := 153) rfl) (hz_wg wX10_net_0 (j := 16) (n := 0) rfl) (hz_wg wX10_net_0 (j := 17) (n := 183) rfl) (by decide)
theorem dX10_net_18 : decode cX10_net 18 = .ok (.aload_n 0, 1) := dq_42 (hz_wg wX10_net_0 (j := 18) (n := 42) rfl)
theorem dX10_net_19 : decode cX10_net 19 = .ok (.invokevirtual 458, 3) := dq_182 (hz_wg wX10_net_0 (j := 19) (n := 182) rfl) (hz_wg wX10_net_0 (j := 20) (n := 1) rfl) (hz_wg wX10_net_0 (j := 21) (n := 202) rfl) rfl
theorem dX10_net_22 : decode cX10_net 22 = .ok (.aload_n 0, 1) := dq_42 (hz_wg wX10_net_0 (j := 22) (n := 42) rfl)
theorem dX10_net_23 : decode cX10_net 23 = .ok (.invokevirtual 461, 3) := dq_182 (hz_wg wX10_net_0 (j := 23) (n := 182) rfl) (hz_wg wX10_net_0 (j := 24) (n := 1) rfl) (hz_wg wX10_net_0 (j := 25) (n := 205) rfl) rfl
theorem dX10_net_26 : decode cX10_net 26 = .ok (.iconst 0, 1) := dq_3 (hz_wg wX10_net_0 (j := 26) (n := 3) rfl)
theorem dX10_net_27 : decode cX10_net 27 = .ok (.istore_n 3, 1) := dq_62 (hz_wg wX10_net_0 (j := 27) (n := 62) rfl)
theorem dX10_net_28 : decode cX10_net 28 = .ok (.iconst 0, 1) := dq_3 (hz_wg wX10_net_0 (j := 28) (n := 3) rfl)
theorem dX10_net_29 : decode cX10_net 29 = .ok (.istore 4, 2) := dq_54 (hz_wg wX10_net_0 (j := 29) (n := 54) rfl) (hz_wg wX10_net_0 (j := 30) (n := 4) rfl)
theorem dX10_net_31 : decode cX10_net 31 = .ok (.iload 4, 2) := dq_21 (hz_wg wX10_net_0 (j := 31) (n := 21) rfl) (hz_wg wX10_net_0 (j := 32) (n := 4) rfl)
theorem dX10_net_33 : decode cX10_net 33 = .ok (.aload_n 0, 1) := dq_42 (hz_wg wX10_net_0 (j := 33) (n := 42) rfl)
theorem dX10_net_34 : decode cX10_net 34 = .ok (.getfield 441, 3) := dq_180 (hz_wg wX10_net_0 (j := 34) (n := 180) rfl) (hz_wg wX10_net_0 (j := 35) (n := 1) rfl) (hz_wg wX10_net_0 (j := 36) (n := 185) rfl) rfl
theorem dX10_net_37 : decode cX10_net 37 = .ok (.if_icmp .ge 42, 3) := dq_162 (hz_wg wX10_net_0 (j := 37) (n := 162) rfl) (hz_wg wX10_net_0 (j := 38) (n := 0) rfl) (hz_wg wX10_net_0 (j := 39) (n := 42) rfl) (by decide)
theorem dX10_net_40 : decode cX10_net 40 = .ok (.iload_n 3, 1) := dq_29 (hz_wg wX10_net_0 (j := 40) (n := 29) rfl)
theorem dX10_net_41 : decode cX10_net 41 = .ok (.aload_n 0, 1) := dq_42 (hz_wg wX10_net_0 (j := 41) (n := 42) rfl)
theorem dX10_net_42 : decode cX10_net 42 = .ok (.aload_n 0, 1) := dq_42 (hz_wg wX10_net_0 (j := 42) (n := 42) rfl)
theorem dX10_net_43 : decode cX10_net 43 = .ok (.getfield 195, 3) := dq_180 (hz_wg wX10_net_0 (j := 43) (n := 180) rfl) (hz_wg wX10_net_0 (j := 44) (n := 0) rfl) (hz_wg wX10_net_0 (j := 45) (n := 195) rfl) rfl
theorem dX10_net_46 : decode cX10_net 46 = .ok (.iload 4, 2) := dq_21 (hz_wg wX10_net_0 (j := 46) (n := 21) rfl) (hz_wg wX10_net_0 (j := 47) (n := 4) rfl)
theorem dX10_net_48 : decode cX10_net 48 = .ok (.iaload, 1) := dq_46 (hz_wg wX10_net_0 (j := 48) (n := 46) rfl)
theorem dX10_net_49 : decode cX10_net 49 = .ok (.aload_n 0, 1) := dq_42 (hz_wg wX10_net_0 (j := 49) (n := 42) rfl)
theorem dX10_net_50 : decode cX10_net 50 = .ok (.getfield 195, 3) := dq_180 (hz_wg wX10_net_0 (j := 50) (n := 180) rfl) (hz_wg wX10_net_0 (j := 51) (n := 0) rfl) (hz_wg wX10_net_0 (j := 52) (n := 195) rfl) rfl
theorem dX10_net_53 : decode cX10_net 53 = .ok (.iload 4, 2) := dq_21 (hz_wg wX10_net_0 (j := 53) (n := 21) rfl) (hz_wg wX10_net_0 (j := 54) (n := 4) rfl)
theorem dX10_net_55 : decode cX10_net 55 = .ok (.iconst 1, 1) := dq_4 (hz_wg wX10_net_0 (j := 55) (n := 4) rfl)
theorem dX10_net_56 : decode cX10_net 56 = .ok (.iadd, 1) := dq_96 (hz_wg wX10_net_0 (j := 56) (n := 96) rfl)
theorem dX10_net_57 : decode cX10_net 57 = .ok (.aload_n 0, 1) := dq_42 (hz_wg wX10_net_0 (j := 57) (n := 42) rfl)
theorem dX10_net_58 : decode cX10_net 58 = .ok (.getfield 441, 3) := dq_180 (hz_wg wX10_net_0 (j := 58) (n := 180) rfl) (hz_wg wX10_net_0 (j := 59) (n := 1) rfl) (hz_wg wX10_net_0 (j := 60) (n := 185) rfl) rfl
theorem dX10_net_61 : decode cX10_net 61 = .ok (.irem, 1) := dq_112 (hz_wg wX10_net_0 (j := 61) (n := 112) rfl)
theorem dX10_net_62 : decode cX10_net 62 = .ok (.iaload, 1) := dq_46 (hz_wg wX10_net_0 (j := 62) (n := 46) rfl)
theorem dX10_net_63 : decode cX10_net 63 = .ok (.aload_n 0, 1) := dq_42 (hz_wg wX10_net_0 (j := 63) (n := 42) rfl)
theorem dX10_net_64 : decode cX10_net 64 = .ok (.getfield 438, 3) := dq_180 (hz_wg wX10_net_1 (j := 0) (n := 180) rfl) (hz_wg wX10_net_1 (j := 1) (n := 1) rfl) (hz_wg wX10_net_1 (j := 2) (n := 182) rfl) rfl
theorem dX10_net_67 : decode cX10_net 67 = .ok (.iconst 0, 1) := dq_3 (hz_wg wX10_net_1 (j := 3) (n := 3) rfl)
theorem dX10_net_68 : decode cX10_net 68 = .ok (.invokevirtual 464, 3) := dq_182 (hz_wg wX10_net_1 (j := 4) (n := 182) rfl) (hz_wg wX10_net_1 (j := 5) (n := 1) rfl) (hz_wg wX10_net_1 (j := 6) (n := 208) rfl) rfl
theorem dX10_net_71 : decode cX10_net 71 = .ok (.iadd, 1) := dq_96 (hz_wg wX10_net_1 (j := 7) (n := 96) rfl)
theorem dX10_net_72 : decode cX10_net 72 = .ok (.istore_n 3, 1) := dq_62 (hz_wg wX10_net_1 (j := 8) (n := 62) rfl)
theorem dX10_net_73 : decode cX10_net 73 = .ok (.iinc 4 1, 3) := dq_132 (hz_wg wX10_net_1 (j := 9) (n := 132) rfl) (hz_wg wX10_net_1 (j := 10) (n := 4) rfl) (hz_wg wX10_net_1 (j := 11) (n := 1) rfl) (by decide)
theorem dX10_net_76 : decode cX10_net 76 = .ok (.goto (-45), 3) := dq_167 (hz_wg wX10_net_1 (j := 12) (n := 167) rfl) (hz_wg wX10_net_1 (j := 13) (n := 255) rfl) (hz_wg wX10_net_1 (j := 14) (n := 211) rfl) (by decide)
theorem dX10_net_79 : decode cX10_net 79 = .ok (.aload_n 0, 1) := dq_42 (hz_wg wX10_net_1 (j := 15) (n := 42) rfl)
theorem dX10_net_80 : decode cX10_net 80 = .ok (.getfield 441, 3) := dq_180 (hz_wg wX10_net_1 (j := 16) (n := 180) rfl) (hz_wg wX10_net_1 (j := 17) (n := 1) rfl) (hz_wg wX10_net_1 (j := 18) (n := 185) rfl) rfl
theorem dX10_net_83 : decode cX10_net 83 = .ok (.ifCond .le 19, 3) := dq_158 (hz_wg wX10_net_1 (j := 19) (n := 158) rfl) (hz_wg wX10_net_1 (j := 20) (n := 0) rfl) (hz_wg wX10_net_1 (j := 21) (n := 19) rfl) (by decide)
theorem dX10_net_86 : decode cX10_net 86 = .ok (.aload_n 0, 1) := dq_42 (hz_wg wX10_net_1 (j := 22) (n := 42) rfl)
theorem dX10_net_87 : decode cX10_net 87 = .ok (.getfield 413, 3) := dq_180 (hz_wg wX10_net_1 (j := 23) (n := 180) rfl) (hz_wg wX10_net_1 (j := 24) (n := 1) rfl) (hz_wg wX10_net_1 (j := 25) (n := 157) rfl) rfl
theorem dX10_net_90 : decode cX10_net 90 = .ok (.iload_n 3, 1) := dq_29 (hz_wg wX10_net_1 (j := 26) (n := 29) rfl)
theorem dX10_net_91 : decode cX10_net 91 = .ok (.iadd, 1) := dq_96 (hz_wg wX10_net_1 (j := 27) (n := 96) rfl)
theorem dX10_net_92 : decode cX10_net 92 = .ok (.sipush 600, 3) := dq_17 (hz_wg wX10_net_1 (j := 28) (n := 17) rfl) (hz_wg wX10_net_1 (j := 29) (n := 2) rfl) (hz_wg wX10_net_1 (j := 30) (n := 88) rfl) (by decide)
theorem dX10_net_95 : decode cX10_net 95 = .ok (.if_icmp .gt 7, 3) := dq_163 (hz_wg wX10_net_1 (j := 31) (n := 163) rfl) (hz_wg wX10_net_1 (j := 32) (n := 0) rfl) (hz_wg wX10_net_1 (j := 33) (n := 7) rfl) (by decide)
theorem dX10_net_98 : decode cX10_net 98 = .ok (.iconst 1, 1) := dq_4 (hz_wg wX10_net_1 (j := 34) (n := 4) rfl)
theorem dX10_net_99 : decode cX10_net 99 = .ok (.goto 4, 3) := dq_167 (hz_wg wX10_net_1 (j := 35) (n := 167) rfl) (hz_wg wX10_net_1 (j := 36) (n := 0) rfl) (hz_wg wX10_net_1 (j := 37) (n := 4) rfl) (by decide)
theorem dX10_net_102 : decode cX10_net 102 = .ok (.iconst 0, 1) := dq_3 (hz_wg wX10_net_1 (j := 38) (n := 3) rfl)
theorem dX10_net_103 : decode cX10_net 103 = .ok (.istore_n 2, 1) := dq_61 (hz_wg wX10_net_1 (j := 39) (n := 61) rfl)
theorem dX10_net_104 : decode cX10_net 104 = .ok (.iload_n 2, 1) := dq_28 (hz_wg wX10_net_1 (j := 40) (n := 28) rfl)
theorem dX10_net_105 : decode cX10_net 105 = .ok (.ifCond .ne 6, 3) := dq_154 (hz_wg wX10_net_1 (j := 41) (n := 154) rfl) (hz_wg wX10_net_1 (j := 42) (n := 0) rfl) (hz_wg wX10_net_1 (j := 43) (n := 6) rfl) (by decide)
theorem dX10_net_108 : decode cX10_net 108 = .ok (.goto 90, 3) := dq_167 (hz_wg wX10_net_1 (j := 44) (n := 167) rfl) (hz_wg wX10_net_1 (j := 45) (n := 0) rfl) (hz_wg wX10_net_1 (j := 46) (n := 90) rfl) (by decide)
theorem dX10_net_111 : decode cX10_net 111 = .ok (.iconst 0, 1) := dq_3 (hz_wg wX10_net_1 (j := 47) (n := 3) rfl)
theorem dX10_net_112 : decode cX10_net 112 = .ok (.istore 4, 2) := dq_54 (hz_wg wX10_net_1 (j := 48) (n := 54) rfl) (hz_wg wX10_net_1 (j := 49) (n := 4) rfl)
theorem dX10_net_114 : decode cX10_net 114 = .ok (.iload 4, 2) := dq_21 (hz_wg wX10_net_1 (j := 50) (n := 21) rfl) (hz_wg wX10_net_1 (j := 51) (n := 4) rfl)
theorem dX10_net_116 : decode cX10_net 116 = .ok (.aload_n 0, 1) := dq_42 (hz_wg wX10_net_1 (j := 52) (n := 42) rfl)
theorem dX10_net_117 : decode cX10_net 117 = .ok (.getfield 441, 3) := dq_180 (hz_wg wX10_net_1 (j := 53) (n := 180) rfl) (hz_wg wX10_net_1 (j := 54) (n := 1) rfl) (hz_wg wX10_net_1 (j := 55) (n := 185) rfl) rfl
theorem dX10_net_120 : decode cX10_net 120 = .ok (.if_icmp .ge 40, 3) := dq_162 (hz_wg wX10_net_1 (j := 56) (n := 162) rfl) (hz_wg wX10_net_1 (j := 57) (n := 0) rfl) (hz_wg wX10_net_1 (j := 58) (n := 40) rfl) (by decide)
theorem dX10_net_123 : decode cX10_net 123 = .ok (.aload_n 0, 1) := dq_42 (hz_wg wX10_net_1 (j := 59) (n := 42) rfl)
theorem dX10_net_124 : decode cX10_net 124 = .ok (.aload_n 0, 1) := dq_42 (hz_wg wX10_net_1 (j := 60) (n := 42) rfl)
theorem dX10_net_125 : decode cX10_net 125 = .ok (.getfield 195, 3) := dq_180 (hz_wg wX10_net_1 (j := 61) (n := 180) rfl) (hz_wg wX10_net_1 (j := 62) (n := 0) rfl) (hz_wg wX10_net_1 (j := 63) (n := 195) rfl) rfl
theorem dX10_net_128 : decode cX10_net 128 = .ok (.iload 4, 2) := dq_21 (hz_wg wX10_net_2 (j := 0) (n := 21) rfl) (hz_wg wX10_net_2 (j := 1) (n := 4) rfl)
theorem dX10_net_130 : decode cX10_net 130 = .ok (.iaload, 1) := dq_46 (hz_wg wX10_net_2 (j := 2) (n := 46) rfl)
theorem dX10_net_131 : decode cX10_net 131 = .ok (.aload_n 0, 1) := dq_42 (hz_wg wX10_net_2 (j := 3) (n := 42) rfl)
theorem dX10_net_132 : decode cX10_net 132 = .ok (.getfield 195, 3) := dq_180 (hz_wg wX10_net_2 (j := 4) (n := 180) rfl) (hz_wg wX10_net_2 (j := 5) (n := 0) rfl) (hz_wg wX10_net_2 (j := 6) (n := 195) rfl) rfl
theorem dX10_net_135 : decode cX10_net 135 = .ok (.iload 4, 2) := dq_21 (hz_wg wX10_net_2 (j := 7) (n := 21) rfl) (hz_wg wX10_net_2 (j := 8) (n := 4) rfl)
theorem dX10_net_137 : decode cX10_net 137 = .ok (.iconst 1, 1) := dq_4 (hz_wg wX10_net_2 (j := 9) (n := 4) rfl)
theorem dX10_net_138 : decode cX10_net 138 = .ok (.iadd, 1) := dq_96 (hz_wg wX10_net_2 (j := 10) (n := 96) rfl)
theorem dX10_net_139 : decode cX10_net 139 = .ok (.aload_n 0, 1) := dq_42 (hz_wg wX10_net_2 (j := 11) (n := 42) rfl)
theorem dX10_net_140 : decode cX10_net 140 = .ok (.getfield 441, 3) := dq_180 (hz_wg wX10_net_2 (j := 12) (n := 180) rfl) (hz_wg wX10_net_2 (j := 13) (n := 1) rfl) (hz_wg wX10_net_2 (j := 14) (n := 185) rfl) rfl
theorem dX10_net_143 : decode cX10_net 143 = .ok (.irem, 1) := dq_112 (hz_wg wX10_net_2 (j := 15) (n := 112) rfl)
theorem dX10_net_144 : decode cX10_net 144 = .ok (.iaload, 1) := dq_46 (hz_wg wX10_net_2 (j := 16) (n := 46) rfl)
theorem dX10_net_145 : decode cX10_net 145 = .ok (.aload_n 0, 1) := dq_42 (hz_wg wX10_net_2 (j := 17) (n := 42) rfl)
theorem dX10_net_146 : decode cX10_net 146 = .ok (.getfield 438, 3) := dq_180 (hz_wg wX10_net_2 (j := 18) (n := 180) rfl) (hz_wg wX10_net_2 (j := 19) (n := 1) rfl) (hz_wg wX10_net_2 (j := 20) (n := 182) rfl) rfl
theorem dX10_net_149 : decode cX10_net 149 = .ok (.iconst 1, 1) := dq_4 (hz_wg wX10_net_2 (j := 21) (n := 4) rfl)
theorem dX10_net_150 : decode cX10_net 150 = .ok (.invokevirtual 464, 3) := dq_182 (hz_wg wX10_net_2 (j := 22) (n := 182) rfl) (hz_wg wX10_net_2 (j := 23) (n := 1) rfl) (hz_wg wX10_net_2 (j := 24) (n := 208) rfl) rfl
theorem dX10_net_153 : decode cX10_net 153 = .ok (.pop, 1) := dq_87 (hz_wg wX10_net_2 (j := 25) (n := 87) rfl)
theorem dX10_net_154 : decode cX10_net 154 = .ok (.iinc 4 1, 3) := dq_132 (hz_wg wX10_net_2 (j := 26) (n := 132) rfl) (hz_wg wX10_net_2 (j := 27) (n := 4) rfl) (hz_wg wX10_net_2 (j := 28) (n := 1) rfl) (by decide)
theorem dX10_net_157 : decode cX10_net 157 = .ok (.goto (-43), 3) := dq_167 (hz_wg wX10_net_2 (j := 29) (n := 167) rfl) (hz_wg wX10_net_2 (j := 30) (n := 255) rfl) (hz_wg wX10_net_2 (j := 31) (n := 213) rfl) (by decide)
theorem dX10_net_160 : decode cX10_net 160 = .ok (.aload_n 0, 1) := dq_42 (hz_wg wX10_net_2 (j := 32) (n := 42) rfl)
theorem dX10_net_161 : decode cX10_net 161 = .ok (.getfield 192, 3) := dq_180 (hz_wg wX10_net_2 (j := 33) (n := 180) rfl) (hz_wg wX10_net_2 (j := 34) (n := 0) rfl) (hz_wg wX10_net_2 (j := 35) (n := 192) rfl) rfl
theorem dX10_net_164 : decode cX10_net 164 = .ok (.aload_n 0, 1) := dq_42 (hz_wg wX10_net_2 (j := 36) (n := 42) rfl)
theorem dX10_net_165 : decode cX10_net 165 = .ok (.getfield 455, 3) := dq_180 (hz_wg wX10_net_2 (j := 37) (n := 180) rfl) (hz_wg wX10_net_2 (j := 38) (n := 1) rfl) (hz_wg wX10_net_2 (j := 39) (n := 199) rfl) rfl
theorem dX10_net_168 : decode cX10_net 168 = .ok (.aload_n 0, 1) := dq_42 (hz_wg wX10_net_2 (j := 40) (n := 42) rfl)
theorem dX10_net_169 : decode cX10_net 169 = .ok (.getfield 438, 3) := dq_180 (hz_wg wX10_net_2 (j := 41) (n := 180) rfl) (hz_wg wX10_net_2 (j := 42) (n := 1) rfl) (hz_wg wX10_net_2 (j := 43) (n := 182) rfl) rfl
theorem dX10_net_172 : decode cX10_net 172 = .ok (.iastore, 1) := dq_79 (hz_wg wX10_net_2 (j := 44) (n := 79) rfl)
theorem dX10_net_173 : decode cX10_net 173 = .ok (.aload_n 0, 1) := dq_42 (hz_wg wX10_net_2 (j := 45) (n := 42) rfl)
theorem dX10_net_174 : decode cX10_net 174 = .ok (.dup, 1) := dq_89 (hz_wg wX10_net_2 (j := 46) (n := 89) rfl)
theorem dX10_net_175 : decode cX10_net 175 = .ok (.getfield 455, 3) := dq_180 (hz_wg wX10_net_2 (j := 47) (n := 180) rfl) (hz_wg wX10_net_2 (j := 48) (n := 1) rfl) (hz_wg wX10_net_2 (j := 49) (n := 199) rfl) rfl
theorem dX10_net_178 : decode cX10_net 178 = .ok (.iconst 1, 1) := dq_4 (hz_wg wX10_net_2 (j := 50) (n := 4) rfl)
theorem dX10_net_179 : decode cX10_net 179 = .ok (.iadd, 1) := dq_96 (hz_wg wX10_net_2 (j := 51) (n := 96) rfl)
theorem dX10_net_180 : decode cX10_net 180 = .ok (.putfield 455, 3) := dq_181 (hz_wg wX10_net_2 (j := 52) (n := 181) rfl) (hz_wg wX10_net_2 (j := 53) (n := 1) rfl) (hz_wg wX10_net_2 (j := 54) (n := 199) rfl) rfl
theorem dX10_net_183 : decode cX10_net 183 = .ok (.iload_n 1, 1) := dq_27 (hz_wg wX10_net_2 (j := 55) (n := 27) rfl)
theorem dX10_net_184 : decode cX10_net 184 = .ok (.aload_n 0, 1) := dq_42 (hz_wg wX10_net_2 (j := 56) (n := 42) rfl)
theorem dX10_net_185 : decode cX10_net 185 = .ok (.getfield 438, 3) := dq_180 (hz_wg wX10_net_2 (j := 57) (n := 180) rfl) (hz_wg wX10_net_2 (j := 58) (n := 1) rfl) (hz_wg wX10_net_2 (j := 59) (n := 182) rfl) rfl
theorem dX10_net_188 : decode cX10_net 188 = .ok (.aload_n 0, 1) := dq_42 (hz_wg wX10_net_2 (j := 60) (n := 42) rfl)
theorem dX10_net_189 : decode cX10_net 189 = .ok (.getfield 441, 3) := dq_180 (hz_wg wX10_net_2 (j := 61) (n := 180) rfl) (hz_wg wX10_net_2 (j := 62) (n := 1) rfl) (hz_wg wX10_net_2 (j := 63) (n := 185) rfl) rfl
theorem dX10_net_192 : decode cX10_net 192 = .ok (.imul, 1) := dq_104 (hz_wg wX10_net_3 (j := 0) (n := 104) rfl)
theorem dX10_net_193 : decode cX10_net 193 = .ok (.iadd, 1) := dq_96 (hz_wg wX10_net_3 (j := 1) (n := 96) rfl)
theorem dX10_net_194 : decode cX10_net 194 = .ok (.istore_n 1, 1) := dq_60 (hz_wg wX10_net_3 (j := 2) (n := 60) rfl)
theorem dX10_net_195 : decode cX10_net 195 = .ok (.goto (-181), 3) := dq_167 (hz_wg wX10_net_3 (j := 3) (n := 167) rfl) (hz_wg wX10_net_3 (j := 4) (n := 255) rfl) (hz_wg wX10_net_3 (j := 5) (n := 75) rfl) (by decide)
theorem dX10_net_198 : decode cX10_net 198 = .ok (.iload_n 1, 1) := dq_27 (hz_wg wX10_net_3 (j := 6) (n := 27) rfl)
theorem dX10_net_199 : decode cX10_net 199 = .ok (.ireturn, 1) := dq_172 (hz_wg wX10_net_3 (j := 7) (n := 172) rfl)