def wLX10_net_0 : List Nat := [42, 4, 181, 1, 195, 42, 3, 181, 1, 199, 3, 60, 4, 61, 28, 153, 0, 183, 42, 182, 1, 202, 42, 182, 1, 205, 3, 62, 3, 54, 4, 21, 4, 42, 180, 1, 185, 162, 0, 42, 29, 42, 42, 180, 0, 195, 21, 4, 46, 42, 180, 0, 195, 21, 4, 4, 96, 42, 180, 1, 185, 112, 46, 42]
def wLX10_net_1 : List Nat := [180, 1, 182, 3, 182, 1, 208, 96, 62, 132, 4, 1, 167, 255, 211, 42, 180, 1, 185, 158, 0, 19, 42, 180, 1, 157, 29, 96, 17, 2, 88, 163, 0, 7, 4, 167, 0, 4, 3, 61, 28, 154, 0, 6, 167, 0, 90, 3, 54, 4, 21, 4, 42, 180, 1, 185, 162, 0, 40, 42, 42, 180, 0, 195]
def wLX10_net_2 : List Nat := [21, 4, 46, 42, 180, 0, 195, 21, 4, 4, 96, 42, 180, 1, 185, 112, 46, 42, 180, 1, 182, 4, 182, 1, 208, 87, 132, 4, 1, 167, 255, 213, 42, 180, 0, 192, 42, 180, 1, 199, 42, 180, 1, 182, 79, 42, 89, 180, 1, 199, 4, 96, 181, 1, 199, 27, 42, 180, 1, 182, 42, 180, 1, 185]
def wLX10_net_3 : List Nat := [104, 96, 60, 167, 255, 75, 27, 172]
theorem wX10_net_0 : (cX10_net.data.toList.map UInt8.toNat).drop 0 = wLX10_net_0 ++ (wLX10_net_1 ++ (wLX10_net_2 ++ (wLX10_net_3 ++ ([])))) := by decide +kernel
theorem wX10_net_1 : (cX10_net.data.toList.map UInt8.toNat).drop 64 = wLX10_net_1 ++ (wLX10_net_2 ++ (wLX10_net_3 ++ ([]))) := hz_wn wX10_net_0 rfl
theorem wX10_net_2 : (cX10_net.data.toList.map UInt8.toNat).drop 128 = wLX10_net_2 ++ (wLX10_net_3 ++ ([])) := hz_wn wX10_net_1 rfl
theorem wX10_net_3 : (cX10_net.data.toList.map UInt8.toNat).drop 192 = wLX10_net_3 ++ ([]) := hz_wn wX10_net_2 rfl
theorem dX10_net_0 : decode cX10_net 0 = .ok (.aload_n 0, 1) := dq_42 (hz_wg wX10_net_0 (j := 0) (n := 42) rfl)
theorem dX10_net_1 : decode cX10_net 1 = .ok (.iconst 1, 1) := dq_4 (hz_wg wX10_net_0 (j := 1) (n := 4) rfl)
theorem dX10_net_2 : decode cX10_net 2 = .ok (.putfield 451, 3) := dq_181 (hz_wg wX10_net_0 (j := 2) (n := 181) rfl) (hz_wg wX10_net_0 (j := 3) (n := 1) rfl) (hz_wg wX10_net_0 (j := 4) (n := 195) rfl) rfl
theorem dX10_net_5 : decode cX10_net 5 = .ok (.aload_n 0, 1) := dq_42 (hz_wg wX10_net_0 (j := 5) (n := 42) rfl)
theorem dX10_net_6 : decode cX10_net 6 = .ok (.iconst 0, 1) := dq_3 (hz_wg wX10_net_0 (j := 6) (n := 3) rfl)
theorem dX10_net_7 : decode cX10_net 7 = .ok (.putfield 455, 3) := dq_181 (hz_wg wX10_net_0 (j := 7) (n := 181) rfl) (hz_wg wX10_net_0 (j := 8) (n := 1) rfl) (hz_wg wX10_net_0 (j := 9) (n := 199) rfl) rfl
theorem dX10_net_10 : decode cX10_net 10 = .ok (.iconst 0, 1) := dq_3 (hz_wg wX10_net_0 (j := 10) (n := 3) rfl)
theorem dX10_net_11 : decode cX10_net 11 = .ok (.istore_n 1, 1) := dq_60 (hz_wg wX10_net_0 (j := 11) (n := 60) rfl)
theorem dX10_net_12 : decode cX10_net 12 = .ok (.iconst 1, 1) := dq_4 (hz_wg wX10_net_0 (j := 12) (n := 4) rfl)
theorem dX10_net_13 : decode cX10_net 13 = .ok (.istore_n 2, 1) := dq_61 (hz_wg wX10_net_0 (j := 13) (n := 61) rfl)
theorem dX10_net_14 : decode cX10_net 14 = .ok (.iload_n 2, 1) := dq_28 (hz_wg wX10_net_0 (j := 14) (n := 28) rfl)
theorem dX10_net_15 : decode cX10_net 15 = .ok (.ifCond .eq 183, 3) := dq_153 (hz_wg wX10_net_0 (j := 15) (n := 153) rfl) (hz_wg wX10_net_0 (j := 16) (n := 0) rfl) (hz_wg wX10_net_0 (j := 17) (n := 183) rfl) (by decide)
theorem dX10_net_18 : decode cX10_net 18 = .ok (.aload_n 0, 1) := dq_42 (hz_wg wX10_net_0 (j := 18) (n := 42) rfl)
theorem dX10_net_19 : decode cX10_net 19 = .ok (.invokevirtual 458, 3) := dq_182 (hz_wg wX10_net_0 (j := 19) (n := 182) rfl) (hz_wg wX10_net_0 (j := 20) (n := 1) rfl) (hz_wg wX10_net_0 (j := 21) (n := 202) rfl) rfl
theorem dX10_net_22 : decode cX10_net 22 = .ok (.aload_n 0, 1) := dq_42 (hz_wg wX10_net_0 (j := 22) (n := 42) rfl)
theorem dX10_net_23 : decode cX10_net 23 = .ok (.invokevirtual 461, 3) := dq_182 (hz_wg wX10_net_0 (j := 23) (n := 182) rfl) (hz_wg wX10_net_0 (j := 24) (n := 1) rfl) (hz_wg wX10_net_0 (j := 25) (n := 205) rfl) rfl
theorem dX10_net_26 : decode cX10_net 26 = .ok (.iconst 0, 1) := dq_3 (hz_wg wX10_net_0 (j := 26) (n := 3) rfl)
theorem dX10_net_27 : decode cX10_net 27 = .ok (.istore_n 3, 1) := dq_62 (hz_wg wX10_net_0 (j := 27) (n := 62) rfl)
theorem dX10_net_28 : decode cX10_net 28 = .ok (.iconst 0, 1) := dq_3 (hz_wg wX10_net_0 (j := 28) (n := 3) rfl)
theorem dX10_net_29 : decode cX10_net 29 = .ok (.istore 4, 2) := dq_54 (hz_wg wX10_net_0 (j := 29) (n := 54) rfl) (hz_wg wX10_net_0 (j := 30) (n := 4) rfl)
theorem dX10_net_31 : decode cX10_net 31 = .ok (.iload 4, 2) := dq_21 (hz_wg wX10_net_0 (j := 31) (n := 21) rfl) (hz_wg wX10_net_0 (j := 32) (n := 4) rfl)
theorem dX10_net_33 : decode cX10_net 33 = .ok (.aload_n 0, 1) := dq_42 (hz_wg wX10_net_0 (j := 33) (n := 42) rfl)
theorem dX10_net_34 : decode cX10_net 34 = .ok (.getfield 441, 3) := dq_180 (hz_wg wX10_net_0 (j := 34) (n := 180) rfl) (hz_wg wX10_net_0 (j := 35) (n := 1) rfl) (hz_wg wX10_net_0 (j := 36) (n := 185) rfl) rfl
theorem dX10_net_37 : decode cX10_net 37 = .ok (.if_icmp .ge 42, 3) := dq_162 (hz_wg wX10_net_0 (j := 37) (n := 162) rfl) (hz_wg wX10_net_0 (j := 38) (n := 0) rfl) (hz_wg wX10_net_0 (j := 39) (n := 42) rfl) (by decide)
theorem dX10_net_40 : decode cX10_net 40 = .ok (.iload_n 3, 1) := dq_29 (hz_wg wX10_net_0 (j := 40) (n := 29) rfl)
theorem dX10_net_41 : decode cX10_net 41 = .ok (.aload_n 0, 1) := dq_42 (hz_wg wX10_net_0 (j := 41) (n := 42) rfl)
theorem dX10_net_42 : decode cX10_net 42 = .ok (.aload_n 0, 1) := dq_42 (hz_wg wX10_net_0 (j := 42) (n := 42) rfl)
theorem dX10_net_43 : decode cX10_net 43 = .ok (.getfield 195, 3) := dq_180 (hz_wg wX10_net_0 (j := 43) (n := 180) rfl) (hz_wg wX10_net_0 (j := 44) (n := 0) rfl) (hz_wg wX10_net_0 (j := 45) (n := 195) rfl) rfl
theorem dX10_net_46 : decode cX10_net 46 = .ok (.iload 4, 2) := dq_21 (hz_wg wX10_net_0 (j := 46) (n := 21) rfl) (hz_wg wX10_net_0 (j := 47) (n := 4) rfl)
theorem dX10_net_48 : decode cX10_net 48 = .ok (.iaload, 1) := dq_46 (hz_wg wX10_net_0 (j := 48) (n := 46) rfl)
theorem dX10_net_49 : decode cX10_net 49 = .ok (.aload_n 0, 1) := dq_42 (hz_wg wX10_net_0 (j := 49) (n := 42) rfl)
theorem dX10_net_50 : decode cX10_net 50 = .ok (.getfield 195, 3) := dq_180 (hz_wg wX10_net_0 (j := 50) (n := 180) rfl) (hz_wg wX10_net_0 (j := 51) (n := 0) rfl) (hz_wg wX10_net_0 (j := 52) (n := 195) rfl) rfl
theorem dX10_net_53 : decode cX10_net 53 = .ok (.iload 4, 2) := dq_21 (hz_wg wX10_net_0 (j := 53) (n := 21) rfl) (hz_wg wX10_net_0 (j := 54) (n := 4) rfl)
theorem dX10_net_55 : decode cX10_net 55 = .ok (.iconst 1, 1) := dq_4 (hz_wg wX10_net_0 (j := 55) (n := 4) rfl)
theorem dX10_net_56 : decode cX10_net 56 = .ok (.iadd, 1) := dq_96 (hz_wg wX10_net_0 (j := 56) (n := 96) rfl)
theorem dX10_net_57 : decode cX10_net 57 = .ok (.aload_n 0, 1) := dq_42 (hz_wg wX10_net_0 (j := 57) (n := 42) rfl)
theorem dX10_net_58 : decode cX10_net 58 = .ok (.getfield 441, 3) := dq_180 (hz_wg wX10_net_0 (j := 58) (n := 180) rfl) (hz_wg wX10_net_0 (j := 59) (n := 1) rfl) (hz_wg wX10_net_0 (j := 60) (n := 185) rfl) rfl
theorem dX10_net_61 : decode cX10_net 61 = .ok (.irem, 1) := dq_112 (hz_wg wX10_net_0 (j := 61) (n := 112) rfl)
theorem dX10_net_62 : decode cX10_net 62 = .ok (.iaload, 1) := dq_46 (hz_wg wX10_net_0 (j := 62) (n := 46) rfl)
theorem dX10_net_63 : decode cX10_net 63 = .ok (.aload_n 0, 1) := dq_42 (hz_wg wX10_net_0 (j := 63) (n := 42) rfl)
theorem dX10_net_64 : decode cX10_net 64 = .ok (.getfield 438, 3) := dq_180 (hz_wg wX10_net_1 (j := 0) (n := 180) rfl) (hz_wg wX10_net_1 (j := 1) (n := 1) rfl) (hz_wg wX10_net_1 (j := 2) (n := 182) rfl) rfl
theorem dX10_net_67 : decode cX10_net 67 = .ok (.iconst 0, 1) := dq_3 (hz_wg wX10_net_1 (j := 3) (n := 3) rfl)
theorem dX10_net_68 : decode cX10_net 68 = .ok (.invokevirtual 464, 3) := dq_182 (hz_wg wX10_net_1 (j := 4) (n := 182) rfl) (hz_wg wX10_net_1 (j := 5) (n := 1) rfl) (hz_wg wX10_net_1 (j := 6) (n := 208) rfl) rfl
theorem dX10_net_71 : decode cX10_net 71 = .ok (.iadd, 1) := dq_96 (hz_wg wX10_net_1 (j := 7) (n := 96) rfl)
theorem dX10_net_72 : decode cX10_net 72 = .ok (.istore_n 3, 1) := dq_62 (hz_wg wX10_net_1 (j := 8) (n := 62) rfl)
theorem dX10_net_73 : decode cX10_net 73 = .ok (.iinc 4 1, 3) := dq_132 (hz_wg wX10_net_1 (j := 9) (n := 132) rfl) (hz_wg wX10_net_1 (j := 10) (n := 4) rfl) (hz_wg wX10_net_1 (j := 11) (n := 1) rfl) (by decide)
theorem dX10_net_76 : decode cX10_net 76 = .ok (.goto (-45), 3) := dq_167 (hz_wg wX10_net_1 (j := 12) (n := 167) rfl) (hz_wg wX10_net_1 (j := 13) (n := 255) rfl) (hz_wg wX10_net_1 (j := 14) (n := 211) rfl) (by decide)
theorem dX10_net_79 : decode cX10_net 79 = .ok (.aload_n 0, 1) := dq_42 (hz_wg wX10_net_1 (j := 15) (n := 42) rfl)
theorem dX10_net_80 : decode cX10_net 80 = .ok (.getfield 441, 3) := dq_180 (hz_wg wX10_net_1 (j := 16) (n := 180) rfl) (hz_wg wX10_net_1 (j := 17) (n := 1) rfl) (hz_wg wX10_net_1 (j := 18) (n := 185) rfl) rfl
theorem dX10_net_83 : decode cX10_net 83 = .ok (.ifCond .le 19, 3) := dq_158 (hz_wg wX10_net_1 (j := 19) (n := 158) rfl) (hz_wg wX10_net_1 (j := 20) (n := 0) rfl) (hz_wg wX10_net_1 (j := 21) (n := 19) rfl) (by decide)
theorem dX10_net_86 : decode cX10_net 86 = .ok (.aload_n 0, 1) := dq_42 (hz_wg wX10_net_1 (j := 22) (n := 42) rfl)
theorem dX10_net_87 : decode cX10_net 87 = .ok (.getfield 413, 3) := dq_180 (hz_wg wX10_net_1 (j := 23) (n := 180) rfl) (hz_wg wX10_net_1 (j := 24) (n := 1) rfl) (hz_wg wX10_net_1 (j := 25) (n := 157) rfl) rfl
theorem dX10_net_90 : decode cX10_net 90 = .ok (.iload_n 3, 1) := dq_29 (hz_wg wX10_net_1 (j := 26) (n := 29) rfl)
theorem dX10_net_91 : decode cX10_net 91 = .ok (.iadd, 1) := dq_96 (hz_wg wX10_net_1 (j := 27) (n := 96) rfl)
theorem dX10_net_92 : decode cX10_net 92 = .ok (.sipush 600, 3) := dq_17 (hz_wg wX10_net_1 (j := 28) (n := 17) rfl) (hz_wg wX10_net_1 (j := 29) (n := 2) rfl) (hz_wg wX10_net_1 (j := 30) (n := 88) rfl) (by decide)
theorem dX10_net_95 : decode cX10_net 95 = .ok (.if_icmp .gt 7, 3) := dq_163 (hz_wg wX10_net_1 (j := 31) (n := 163) rfl) (hz_wg wX10_net_1 (j := 32) (n := 0) rfl) (hz_wg wX10_net_1 (j := 33) (n := 7) rfl) (by decide)
theorem dX10_net_98 : decode cX10_net 98 = .ok (.iconst 1, 1) := dq_4 (hz_wg wX10_net_1 (j := 34) (n := 4) rfl)
theorem dX10_net_99 : decode cX10_net 99 = .ok (.goto 4, 3) := dq_167 (hz_wg wX10_net_1 (j := 35) (n := 167) rfl) (hz_wg wX10_net_1 (j := 36) (n := 0) rfl) (hz_wg wX10_net_1 (j := 37) (n := 4) rfl) (by decide)
theorem dX10_net_102 : decode cX10_net 102 = .ok (.iconst 0, 1) := dq_3 (hz_wg wX10_net_1 (j := 38) (n := 3) rfl)
theorem dX10_net_103 : decode cX10_net 103 = .ok (.istore_n 2, 1) := dq_61 (hz_wg wX10_net_1 (j := 39) (n := 61) rfl)
theorem dX10_net_104 : decode cX10_net 104 = .ok (.iload_n 2, 1) := dq_28 (hz_wg wX10_net_1 (j := 40) (n := 28) rfl)
theorem dX10_net_105 : decode cX10_net 105 = .ok (.ifCond .ne 6, 3) := dq_154 (hz_wg wX10_net_1 (j := 41) (n := 154) rfl) (hz_wg wX10_net_1 (j := 42) (n := 0) rfl) (hz_wg wX10_net_1 (j := 43) (n := 6) rfl) (by decide)
theorem dX10_net_108 : decode cX10_net 108 = .ok (.goto 90, 3) := dq_167 (hz_wg wX10_net_1 (j := 44) (n := 167) rfl) (hz_wg wX10_net_1 (j := 45) (n := 0) rfl) (hz_wg wX10_net_1 (j := 46) (n := 90) rfl) (by decide)
theorem dX10_net_111 : decode cX10_net 111 = .ok (.iconst 0, 1) := dq_3 (hz_wg wX10_net_1 (j := 47) (n := 3) rfl)
theorem dX10_net_112 : decode cX10_net 112 = .ok (.istore 4, 2) := dq_54 (hz_wg wX10_net_1 (j := 48) (n := 54) rfl) (hz_wg wX10_net_1 (j := 49) (n := 4) rfl)
theorem dX10_net_114 : decode cX10_net 114 = .ok (.iload 4, 2) := dq_21 (hz_wg wX10_net_1 (j := 50) (n := 21) rfl) (hz_wg wX10_net_1 (j := 51) (n := 4) rfl)
theorem dX10_net_116 : decode cX10_net 116 = .ok (.aload_n 0, 1) := dq_42 (hz_wg wX10_net_1 (j := 52) (n := 42) rfl)
theorem dX10_net_117 : decode cX10_net 117 = .ok (.getfield 441, 3) := dq_180 (hz_wg wX10_net_1 (j := 53) (n := 180) rfl) (hz_wg wX10_net_1 (j := 54) (n := 1) rfl) (hz_wg wX10_net_1 (j := 55) (n := 185) rfl) rfl
theorem dX10_net_120 : decode cX10_net 120 = .ok (.if_icmp .ge 40, 3) := dq_162 (hz_wg wX10_net_1 (j := 56) (n := 162) rfl) (hz_wg wX10_net_1 (j := 57) (n := 0) rfl) (hz_wg wX10_net_1 (j := 58) (n := 40) rfl) (by decide)
theorem dX10_net_123 : decode cX10_net 123 = .ok (.aload_n 0, 1) := dq_42 (hz_wg wX10_net_1 (j := 59) (n := 42) rfl)
theorem dX10_net_124 : decode cX10_net 124 = .ok (.aload_n 0, 1) := dq_42 (hz_wg wX10_net_1 (j := 60) (n := 42) rfl)
theorem dX10_net_125 : decode cX10_net 125 = .ok (.getfield 195, 3) := dq_180 (hz_wg wX10_net_1 (j := 61) (n := 180) rfl) (hz_wg wX10_net_1 (j := 62) (n := 0) rfl) (hz_wg wX10_net_1 (j := 63) (n := 195) rfl) rfl
theorem dX10_net_128 : decode cX10_net 128 = .ok (.iload 4, 2) := dq_21 (hz_wg wX10_net_2 (j := 0) (n := 21) rfl) (hz_wg wX10_net_2 (j := 1) (n := 4) rfl)
theorem dX10_net_130 : decode cX10_net 130 = .ok (.iaload, 1) := dq_46 (hz_wg wX10_net_2 (j := 2) (n := 46) rfl)
theorem dX10_net_131 : decode cX10_net 131 = .ok (.aload_n 0, 1) := dq_42 (hz_wg wX10_net_2 (j := 3) (n := 42) rfl)
theorem dX10_net_132 : decode cX10_net 132 = .ok (.getfield 195, 3) := dq_180 (hz_wg wX10_net_2 (j := 4) (n := 180) rfl) (hz_wg wX10_net_2 (j := 5) (n := 0) rfl) (hz_wg wX10_net_2 (j := 6) (n := 195) rfl) rfl
theorem dX10_net_135 : decode cX10_net 135 = .ok (.iload 4, 2) := dq_21 (hz_wg wX10_net_2 (j := 7) (n := 21) rfl) (hz_wg wX10_net_2 (j := 8) (n := 4) rfl)
theorem dX10_net_137 : decode cX10_net 137 = .ok (.iconst 1, 1) := dq_4 (hz_wg wX10_net_2 (j := 9) (n := 4) rfl)
theorem dX10_net_138 : decode cX10_net 138 = .ok (.iadd, 1) := dq_96 (hz_wg wX10_net_2 (j := 10) (n := 96) rfl)
theorem dX10_net_139 : decode cX10_net 139 = .ok (.aload_n 0, 1) := dq_42 (hz_wg wX10_net_2 (j := 11) (n := 42) rfl)
theorem dX10_net_140 : decode cX10_net 140 = .ok (.getfield 441, 3) := dq_180 (hz_wg wX10_net_2 (j := 12) (n := 180) rfl) (hz_wg wX10_net_2 (j := 13) (n := 1) rfl) (hz_wg wX10_net_2 (j := 14) (n := 185) rfl) rfl
theorem dX10_net_143 : decode cX10_net 143 = .ok (.irem, 1) := dq_112 (hz_wg wX10_net_2 (j := 15) (n := 112) rfl)
theorem dX10_net_144 : decode cX10_net 144 = .ok (.iaload, 1) := dq_46 (hz_wg wX10_net_2 (j := 16) (n := 46) rfl)
theorem dX10_net_145 : decode cX10_net 145 = .ok (.aload_n 0, 1) := dq_42 (hz_wg wX10_net_2 (j := 17) (n := 42) rfl)
theorem dX10_net_146 : decode cX10_net 146 = .ok (.getfield 438, 3) := dq_180 (hz_wg wX10_net_2 (j := 18) (n := 180) rfl) (hz_wg wX10_net_2 (j := 19) (n := 1) rfl) (hz_wg wX10_net_2 (j := 20) (n := 182) rfl) rfl
theorem dX10_net_149 : decode cX10_net 149 = .ok (.iconst 1, 1) := dq_4 (hz_wg wX10_net_2 (j := 21) (n := 4) rfl)
theorem dX10_net_150 : decode cX10_net 150 = .ok (.invokevirtual 464, 3) := dq_182 (hz_wg wX10_net_2 (j := 22) (n := 182) rfl) (hz_wg wX10_net_2 (j := 23) (n := 1) rfl) (hz_wg wX10_net_2 (j := 24) (n := 208) rfl) rfl
theorem dX10_net_153 : decode cX10_net 153 = .ok (.pop, 1) := dq_87 (hz_wg wX10_net_2 (j := 25) (n := 87) rfl)
theorem dX10_net_154 : decode cX10_net 154 = .ok (.iinc 4 1, 3) := dq_132 (hz_wg wX10_net_2 (j := 26) (n := 132) rfl) (hz_wg wX10_net_2 (j := 27) (n := 4) rfl) (hz_wg wX10_net_2 (j := 28) (n := 1) rfl) (by decide)
theorem dX10_net_157 : decode cX10_net 157 = .ok (.goto (-43), 3) := dq_167 (hz_wg wX10_net_2 (j := 29) (n := 167) rfl) (hz_wg wX10_net_2 (j := 30) (n := 255) rfl) (hz_wg wX10_net_2 (j := 31) (n := 213) rfl) (by decide)
theorem dX10_net_160 : decode cX10_net 160 = .ok (.aload_n 0, 1) := dq_42 (hz_wg wX10_net_2 (j := 32) (n := 42) rfl)
theorem dX10_net_161 : decode cX10_net 161 = .ok (.getfield 192, 3) := dq_180 (hz_wg wX10_net_2 (j := 33) (n := 180) rfl) (hz_wg wX10_net_2 (j := 34) (n := 0) rfl) (hz_wg wX10_net_2 (j := 35) (n := 192) rfl) rfl
theorem dX10_net_164 : decode cX10_net 164 = .ok (.aload_n 0, 1) := dq_42 (hz_wg wX10_net_2 (j := 36) (n := 42) rfl)
theorem dX10_net_165 : decode cX10_net 165 = .ok (.getfield 455, 3) := dq_180 (hz_wg wX10_net_2 (j := 37) (n := 180) rfl) (hz_wg wX10_net_2 (j := 38) (n := 1) rfl) (hz_wg wX10_net_2 (j := 39) (n := 199) rfl) rfl
theorem dX10_net_168 : decode cX10_net 168 = .ok (.aload_n 0, 1) := dq_42 (hz_wg wX10_net_2 (j := 40) (n := 42) rfl)
theorem dX10_net_169 : decode cX10_net 169 = .ok (.getfield 438, 3) := dq_180 (hz_wg wX10_net_2 (j := 41) (n := 180) rfl) (hz_wg wX10_net_2 (j := 42) (n := 1) rfl) (hz_wg wX10_net_2 (j := 43) (n := 182) rfl) rfl
theorem dX10_net_172 : decode cX10_net 172 = .ok (.iastore, 1) := dq_79 (hz_wg wX10_net_2 (j := 44) (n := 79) rfl)
theorem dX10_net_173 : decode cX10_net 173 = .ok (.aload_n 0, 1) := dq_42 (hz_wg wX10_net_2 (j := 45) (n := 42) rfl)
theorem dX10_net_174 : decode cX10_net 174 = .ok (.dup, 1) := dq_89 (hz_wg wX10_net_2 (j := 46) (n := 89) rfl)
theorem dX10_net_175 : decode cX10_net 175 = .ok (.getfield 455, 3) := dq_180 (hz_wg wX10_net_2 (j := 47) (n := 180) rfl) (hz_wg wX10_net_2 (j := 48) (n := 1) rfl) (hz_wg wX10_net_2 (j := 49) (n := 199) rfl) rfl
theorem dX10_net_178 : decode cX10_net 178 = .ok (.iconst 1, 1) := dq_4 (hz_wg wX10_net_2 (j := 50) (n := 4) rfl)
theorem dX10_net_179 : decode cX10_net 179 = .ok (.iadd, 1) := dq_96 (hz_wg wX10_net_2 (j := 51) (n := 96) rfl)
theorem dX10_net_180 : decode cX10_net 180 = .ok (.putfield 455, 3) := dq_181 (hz_wg wX10_net_2 (j := 52) (n := 181) rfl) (hz_wg wX10_net_2 (j := 53) (n := 1) rfl) (hz_wg wX10_net_2 (j := 54) (n := 199) rfl) rfl
theorem dX10_net_183 : decode cX10_net 183 = .ok (.iload_n 1, 1) := dq_27 (hz_wg wX10_net_2 (j := 55) (n := 27) rfl)
theorem dX10_net_184 : decode cX10_net 184 = .ok (.aload_n 0, 1) := dq_42 (hz_wg wX10_net_2 (j := 56) (n := 42) rfl)
theorem dX10_net_185 : decode cX10_net 185 = .ok (.getfield 438, 3) := dq_180 (hz_wg wX10_net_2 (j := 57) (n := 180) rfl) (hz_wg wX10_net_2 (j := 58) (n := 1) rfl) (hz_wg wX10_net_2 (j := 59) (n := 182) rfl) rfl
theorem dX10_net_188 : decode cX10_net 188 = .ok (.aload_n 0, 1) := dq_42 (hz_wg wX10_net_2 (j := 60) (n := 42) rfl)
theorem dX10_net_189 : decode cX10_net 189 = .ok (.getfield 441, 3) := dq_180 (hz_wg wX10_net_2 (j := 61) (n := 180) rfl) (hz_wg wX10_net_2 (j := 62) (n := 1) rfl) (hz_wg wX10_net_2 (j := 63) (n := 185) rfl) rfl
theorem dX10_net_192 : decode cX10_net 192 = .ok (.imul, 1) := dq_104 (hz_wg wX10_net_3 (j := 0) (n := 104) rfl)
theorem dX10_net_193 : decode cX10_net 193 = .ok (.iadd, 1) := dq_96 (hz_wg wX10_net_3 (j := 1) (n := 96) rfl)
theorem dX10_net_194 : decode cX10_net 194 = .ok (.istore_n 1, 1) := dq_60 (hz_wg wX10_net_3 (j := 2) (n := 60) rfl)
theorem dX10_net_195 : decode cX10_net 195 = .ok (.goto (-181), 3) := dq_167 (hz_wg wX10_net_3 (j := 3) (n := 167) rfl) (hz_wg wX10_net_3 (j := 4) (n := 255) rfl) (hz_wg wX10_net_3 (j := 5) (n := 75) rfl) (by decide)
theorem dX10_net_198 : decode cX10_net 198 = .ok (.iload_n 1, 1) := dq_27 (hz_wg wX10_net_3 (j := 6) (n := 27) rfl)
theorem dX10_net_199 : decode cX10_net 199 = .ok (.ireturn, 1) := dq_172 (hz_wg wX10_net_3 (j := 7) (n := 172) rfl)
set_option maxHeartbeats 4000000 in
set_option maxRecDepth 100000 in
theorem t_X10_net_2 (l : Launch) (dC : Nat → ClassId) (dI : Nat → Nat → Nat) (dA : Nat → ClassId) (L : List Nat) (h : hx_h) (sz : Nat) (x : Nat) (hT : hx_T T_tb L h) (gx : hx_g L h x 10) (qod : Nat) (gqod : hx_g L h qod 83) (f_x_48 : h.2.2 x 48 = some qod) (qsv : Nat) (gqsv : hx_g L h qsv 85) (f_x_50 : h.2.2 x 50 = some qsv) (qsz : Nat) (gqsz : hx_g L h qsz 84) (f_x_49 : h.2.2 x 49 = some qsz) (qgd : Nat) (gqgd : hx_g L h qgd 91) (f_x_56 : h.2.2 x 56 = some qgd) (qow : Nat) (gqow : hx_g L h qow 90) (f_x_55 : h.2.2 x 55 = some qow) (qpl : Nat) (gqpl : hx_g L h qpl 79) (f_x_44 : h.2.2 x 44 = some qpl) (qru : Nat) (gqru : hx_g L h qru 50) (f_x_3 : h.2.2 x 3 = some qru) (qpo : Nat) (gqpo : hx_g L h qpo 93) (f_x_60 : h.2.2 x 60 = some qpo) (qpd : Nat) (gqpd : hx_g L h qpd 94) (f_x_61 : h.2.2 x 61 = some qpd) (qps : Nat) (gqps : hx_g L h qps 95) (f_x_62 : h.2.2 x 62 = some qps) (qpk : Nat) (gqpk : hx_g L h qpk 96) (f_x_63 : h.2.2 x 63 = some qpk) (qpt : Nat) (gqpt : hx_g L h qpt 97) (f_x_64 : h.2.2 x 64 = some qpt) (qag : Nat) (gqag : hx_g L h qag 73) (f_x_38 : h.2.2 x 38 = some qag) (qby : Nat) (gqby : hx_g L h qby 72) (f_x_37 : h.2.2 x 37 = some qby) (qdb : Nat) (gqdb : hx_g L h qdb 108) (f_x_82 : h.2.2 x 82 = some qdb) (qrg : Nat) (gqrg : hx_g L h qrg 111) (f_x_89 : h.2.2 x 89 = some qrg) (qbr : Nat) (gqbr : hx_g L h qbr 110) (f_x_88 : h.2.2 x 88 = some qbr) (odf : Nat → Int32) (af_qod : h.2.1 qod = odf) (svf : Nat → Int32) (af_qsv : h.2.1 qsv = svf) (szf : Nat → Int32) (af_qsz : h.2.1 qsz = szf) (gdf : Nat → Int32) (af_qgd : h.2.1 qgd = gdf) (owf : Nat → Int32) (af_qow : h.2.1 qow = owf) (plf : Nat → Int32) (af_qpl : h.2.1 qpl = plf) (rf : Nat → Int32) (af_qru : h.2.1 qru = rf) (pof : Nat → Int32) (af_qpo : h.2.1 qpo = pof) (pdf : Nat → Int32) (af_qpd : h.2.1 qpd = pdf) (psm : Nat → Int32) (af_qps : h.2.1 qps = psm) (pkf : Nat → Int32) (af_qpk : h.2.1 qpk = pkf) (pst : Nat → Int32) (af_qpt : h.2.1 qpt = pst) (agf : Nat → Int32) (af_qag : h.2.1 qag = agf) (byf : Nat → Int32) (af_qby : h.2.1 qby = byf) (nw0 : Int32) (f_x_0 : h.2.1 x 0 = nw0) (c0 : Int32) (f_x_36 : h.2.1 x 36 = c0) : Met l yX10_net (Cond.code yX10_net cX10_net 5 (some .int) :: hx_all) ({ frames := 4, cells := 0, slots := 0, locals := 99 }) (va_Pc [.ref x] (hx_B T_tb (P_ty dA) (dC, dI) vwCl L h sz)) (va_Qi (fun (r : Int32) (u : List Nat × hx_h) => (True) ∧ hx_T T_tb u.1 u.2 ∧ hx_S T_tb [(10, 59), (10, 67), (10, 68), (10, 69), (10, 70), (10, 71), (10, 83), (10, 84), (10, 86), (10, 87), (93, 0), (94, 0), (95, 0), (96, 0), (97, 0), (108, 0), (109, 0), (110, 0), (111, 0)] L h u.1 u.2) (hx_E T_tb (P_ty dA) (dC, dI) vwCl (hx_A L sz)) (hx_A L sz)) 0 0 (hx_A L sz) := by
  refine hx_met (lv := [(0, .ref x)]) (by decide +kernel) rfl (Nat.le_of_ble_eq_true rfl) rfl ?_
  intro p e s m below meth c hx hb hml hr hlk hts0 hown hin hsz hW ls hl
  have hts : ∀ w ∈ hx_all, w.before _ s = true := fun w hw => hts0 w (List.mem_cons_of_mem _ hw)
  have hown : s.vm.findClass "SmallCourtModel" = some m.cls := hown
  have hM : hx_S T_tb [(10, 59), (10, 67), (10, 68), (10, 69), (10, 70), (10, 71), (10, 83), (10, 84), (10, 86), (10, 87), (93, 0), (94, 0), (95, 0), (96, 0), (97, 0), (108, 0), (109, 0), (110, 0), (111, 0)] L h L h := hx_S.rf
  have b_nw0 := hT.gi gx tt_10 (k := 0) rfl
  rw [f_x_0] at b_nw0
  have b_nw0 : 0 ≤ nw0.toInt ∧ nw0.toInt ≤ 7999 := b_nw0
  have b_c0 := hT.gi gx tt_10 (k := 36) rfl
  rw [f_x_36] at b_c0
  have b_c0 : 0 ≤ c0.toInt ∧ c0.toInt ≤ 100 := b_c0
  refine lv_aload_n hx hb dX10_net_0 rfl (lv_at hl 0 rfl) ?_
  refine lv_iconst (v := 1) hx hb dX10_net_1 (by decide) ?_
  refine hx_puti hx hb hts hC_10 hown hW hT (hx_S.rf (M := [(10, 83)])) (gx.S hM) tt_10 83 (by decide) rfl kw_1226 ⟨rfl, rfl, rfl⟩ rfl (x := (1 : Int32)) (by decide) rfl (by decide) (by decide) (List.mem_singleton.mpr rfl) dX10_net_2 (fun H locs h_1 eh_1 hW hT hs => ?_)
  replace af_qpo : h_1.2.1 qpo = pof := (funext fun j => (hs.a (gqpo.S hM) rfl j).1).trans af_qpo
  replace af_qpd : h_1.2.1 qpd = pdf := (funext fun j => (hs.a (gqpd.S hM) rfl j).1).trans af_qpd
  replace af_qps : h_1.2.1 qps = psm := (funext fun j => (hs.a (gqps.S hM) rfl j).1).trans af_qps
  replace af_qpk : h_1.2.1 qpk = pkf := (funext fun j => (hs.a (gqpk.S hM) rfl j).1).trans af_qpk
  replace af_qpt : h_1.2.1 qpt = pst := (funext fun j => (hs.a (gqpt.S hM) rfl j).1).trans af_qpt
  replace hM := hM.tr (hs.mono (by decide))
  have f_2 : h_1.2.1 x 83 = (1 : Int32) := by rw [eh_1]; exact hx_pi_at _ _ _ _
  refine lv_aload_n hx hb dX10_net_5 rfl (lv_at hl 0 rfl) ?_
  refine lv_iconst (v := 0) hx hb dX10_net_6 (by decide) ?_
  refine hx_puti hx hb hts hC_10 hown hW hT (hx_S.rf (M := [(10, 84)])) (gx.S hM) tt_10 84 (by decide) rfl kw_1227 ⟨rfl, rfl, rfl⟩ rfl (x := (0 : Int32)) (by decide) rfl rfl rfl (List.mem_singleton.mpr rfl) dX10_net_7 (fun H locs h_3 eh_3 hW hT hs => ?_)
  replace f_2 := (hs.o (gx.S hM) trivial rfl).1.trans f_2
  replace af_qpo : h_3.2.1 qpo = pof := (funext fun j => (hs.a (gqpo.S hM) rfl j).1).trans af_qpo
  replace af_qpd : h_3.2.1 qpd = pdf := (funext fun j => (hs.a (gqpd.S hM) rfl j).1).trans af_qpd
  replace af_qps : h_3.2.1 qps = psm := (funext fun j => (hs.a (gqps.S hM) rfl j).1).trans af_qps
  replace af_qpk : h_3.2.1 qpk = pkf := (funext fun j => (hs.a (gqpk.S hM) rfl j).1).trans af_qpk
  replace af_qpt : h_3.2.1 qpt = pst := (funext fun j => (hs.a (gqpt.S hM) rfl j).1).trans af_qpt
  replace hM := hM.tr (hs.mono (by decide))
  have f_4 : h_3.2.1 x 84 = (0 : Int32) := by rw [eh_3]; exact hx_pi_at _ _ _ _
  refine lv_iconst (v := 0) hx hb dX10_net_10 (by decide) ?_
  refine lv_istore_n (lv' := [(1, .int (0 : Int32)), (0, .ref x)]) hx hb dX10_net_11 rfl hl (by decide) rfl (fun ls hl => ?_)
  refine lv_iconst (v := 1) hx hb dX10_net_12 (by decide) ?_
  refine lv_istore_n (lv' := [(2, .int (1 : Int32)), (1, .int (0 : Int32)), (0, .ref x)]) hx hb dX10_net_13 rfl hl (by decide) rfl (fun ls hl => ?_)
  obtain ⟨fv_5, efv_5⟩ : ∃ y : Int32, y = h_3.2.1 x 59 := ⟨_, rfl⟩
  have bfv_5 := hT.gi (gx.S hM) tt_10 (k := 59) rfl
  rw [← efv_5] at bfv_5
  have bfv_5 : 0 ≤ fv_5.toInt ∧ fv_5.toInt ≤ 600 := bfv_5
  have ffv_5 := efv_5.symm
  have loop14 : ∀ (n14 : Nat) (iv14_1 iv14_2 fw14_x_59 fw14_x_84 : Int32) (ia14_qpo ia14_qpd ia14_qps ia14_qpk ia14_qpt : Nat → Int32) (H : Heap) (locs : List Loc) (hL1 : List Nat) (hl1 : hx_h), -2147483648 ≤ iv14_1.toInt → iv14_1.toInt ≤ 2147483647 → 0 ≤ iv14_2.toInt → iv14_2.toInt ≤ 1 → 0 ≤ fw14_x_59.toInt → fw14_x_59.toInt ≤ 600 → 0 ≤ fw14_x_84.toInt → fw14_x_84.toInt ≤ 300 → (2 * fw14_x_84.toInt ≤ fw14_x_59.toInt) → ∀ (ls : Array Slot), 600 - fw14_x_59.toInt < (n14 : Int) → hx_W T_tb (P_ty dA) (dC, dI) vwCl (hx_A L sz) s.heap hL1 hl1 s H locs → hx_T T_tb hL1 hl1 → hx_S T_tb [(10, 59), (10, 67), (10, 68), (10, 69), (10, 70), (10, 71), (10, 83), (10, 84), (10, 86), (10, 87), (93, 0), (94, 0), (95, 0), (96, 0), (97, 0), (108, 0), (109, 0), (110, 0), (111, 0)] L h hL1 hl1 → hl1.2.1 x 59 = fw14_x_59 → hl1.2.1 x 84 = fw14_x_84 → hl1.2.1 qpo = ia14_qpo → hl1.2.1 qpd = ia14_qpd → hl1.2.1 qps = ia14_qps → hl1.2.1 qpk = ia14_qpk → hl1.2.1 qpt = ia14_qpt → lv_has ls 5 [(2, .int iv14_2), (1, .int iv14_1), (0, .ref x)] → W p l e ({ frames := 4, cells := 0, slots := 0, locals := 99 }) s m ([.ref x] : List Value).toArray below meth c H locs 0 0 (MQ below (va_Qi (fun (r : Int32) (u : List Nat × hx_h) => (True) ∧ hx_T T_tb u.1 u.2 ∧ hx_S T_tb [(10, 59), (10, 67), (10, 68), (10, 69), (10, 70), (10, 71), (10, 83), (10, 84), (10, 86), (10, 87), (93, 0), (94, 0), (95, 0), (96, 0), (97, 0), (108, 0), (109, 0), (110, 0), (111, 0)] L h u.1 u.2) (hx_E T_tb (P_ty dA) (dC, dI) vwCl (hx_A L sz)) (hx_A L sz)) ([.ref x] : List Value).toArray s 0 0 (hx_A L sz)) (F0 m 14 ls []) := by
    intro n14
    induction n14 with
    | zero => intro iv14_1 iv14_2 fw14_x_59 fw14_x_84 ia14_qpo ia14_qpd ia14_qps ia14_qpk ia14_qpt H locs hL1 hl1 bliv14_1 buiv14_1 bliv14_2 buiv14_2 blfw14_x_59 bufw14_x_59 blfw14_x_84 bufw14_x_84 vi14_0 ls hn14; exfalso; omega
    | succ n14 ih14 =>
      intro iv14_1 iv14_2 fw14_x_59 fw14_x_84 ia14_qpo ia14_qpd ia14_qps ia14_qpk ia14_qpt H locs hL1 hl1 bliv14_1 buiv14_1 bliv14_2 buiv14_2 blfw14_x_59 bufw14_x_59 blfw14_x_84 bufw14_x_84 vi14_0 ls hn14 hW hT hM ffw14_x_59 ffw14_x_84 nia14_qpo nia14_qpd nia14_qps nia14_qpk nia14_qpt hl
      refine lv_iload_n hx hb dX10_net_14 rfl (lv_at hl 0 rfl) ?_
      refine hb_if_eq (zx := iv14_2.toInt) (tgt := 198) hx hb rfl dX10_net_15 (by decide) (fun c_6 => ?_) (fun c_6 => ?_)
      · skip
        refine lv_iload_n hx hb dX10_net_198 rfl (lv_at hl 1 rfl) ?_
        exact hx_reti hx hb hr hlk hW ⟨trivial, hT, hM⟩ dX10_net_199
      · skip
        refine lv_aload_n hx hb dX10_net_18 rfl (lv_at hl 2 rfl) ?_
        refine hx_gov (hx_runV (As := []) (rest := []) ⟨hx, hb, hml, hown, hts⟩ hW (gx.S hM) tt_10 (T := TX10) (N := 98) rfl (t_X10_debts_2 l dC dI dA hL1 hl1 H.size x hT (gx.S hM) qod (gqod.S hM) ((hM.o gx trivial rfl).2.trans f_x_48) qsv (gqsv.S hM) ((hM.o gx trivial rfl).2.trans f_x_50) qsz (gqsz.S hM) ((hM.o gx trivial rfl).2.trans f_x_49) qgd (gqgd.S hM) ((hM.o gx trivial rfl).2.trans f_x_56) qow (gqow.S hM) ((hM.o gx trivial rfl).2.trans f_x_55) qpl (gqpl.S hM) ((hM.o gx trivial rfl).2.trans f_x_44) qru (gqru.S hM) ((hM.o gx trivial rfl).2.trans f_x_3) qpo (gqpo.S hM) ((hM.o gx trivial rfl).2.trans f_x_60) qpd (gqpd.S hM) ((hM.o gx trivial rfl).2.trans f_x_61) qps (gqps.S hM) ((hM.o gx trivial rfl).2.trans f_x_62) qpk (gqpk.S hM) ((hM.o gx trivial rfl).2.trans f_x_63) qpt (gqpt.S hM) ((hM.o gx trivial rfl).2.trans f_x_64) qag (gqag.S hM) ((hM.o gx trivial rfl).2.trans f_x_38) qby (gqby.S hM) ((hM.o gx trivial rfl).2.trans f_x_37) qdb (gqdb.S hM) ((hM.o gx trivial rfl).2.trans f_x_82) odf (hx_afS hM gqod rfl af_qod) svf (hx_afS hM gqsv rfl af_qsv) szf (hx_afS hM gqsz rfl af_qsz) gdf (hx_afS hM gqgd rfl af_qgd) owf (hx_afS hM gqow rfl af_qow) plf (hx_afS hM gqpl rfl af_qpl) rf (hx_afS hM gqru rfl af_qru) ia14_qpo nia14_qpo ia14_qpd nia14_qpd ia14_qps nia14_qps ia14_qpk nia14_qpk ia14_qpt nia14_qpt agf (hx_afS hM gqag rfl af_qag) byf (hx_afS hM gqby rfl af_qby) nw0 ((hM.o gx trivial rfl).1.trans f_x_0) fw14_x_59 ffw14_x_59 c0 ((hM.o gx trivial rfl).1.trans f_x_36)) (cwV 0 hts (hx_gV kw_1694 kw_1691 kw_1693 kw_86 kw_103) rfl rfl rfl (by decide +kernel) ⟨Nat.le_of_ble_eq_true rfl, Nat.le_of_ble_eq_true rfl⟩) rfl hl.1 rfl (Nat.le_of_ble_eq_true rfl) dX10_net_19 ⟨Nat.le_of_ble_eq_true rfl, Nat.le_of_ble_eq_true rfl⟩) hW (fun L_7 h_8 H locs p_10 hW => ?_)
        obtain ⟨⟨w_12, fw_12, hr_11⟩, hT, hs⟩ := p_10
        replace hT : hx_T T_tb L_7 h_8 := hT
        replace hs : hx_S T_tb [(10, 67), (10, 68), (10, 69), (10, 70), (10, 71), (108, 0)] hL1 hl1 L_7 h_8 := hs
        replace ffw14_x_59 := (hs.o (gx.S hM) trivial rfl).1.trans ffw14_x_59
        replace ffw14_x_84 := (hs.o (gx.S hM) trivial rfl).1.trans ffw14_x_84
        replace nia14_qpo : h_8.2.1 qpo = ia14_qpo := (funext fun j => (hs.a (gqpo.S hM) rfl j).1).trans nia14_qpo
        replace nia14_qpd : h_8.2.1 qpd = ia14_qpd := (funext fun j => (hs.a (gqpd.S hM) rfl j).1).trans nia14_qpd
        replace nia14_qps : h_8.2.1 qps = ia14_qps := (funext fun j => (hs.a (gqps.S hM) rfl j).1).trans nia14_qps
        replace nia14_qpk : h_8.2.1 qpk = ia14_qpk := (funext fun j => (hs.a (gqpk.S hM) rfl j).1).trans nia14_qpk
        replace nia14_qpt : h_8.2.1 qpt = ia14_qpt := (funext fun j => (hs.a (gqpt.S hM) rfl j).1).trans nia14_qpt
        replace hM := hM.tr (hs.mono (by decide))
        have fw_12 : h_8.2.1 qdb = w_12 := fw_12
        refine lv_aload_n hx hb dX10_net_22 rfl (lv_at hl 2 rfl) ?_
        refine hx_gov (hx_runV (As := []) (rest := []) ⟨hx, hb, hml, hown, hts⟩ hW (gx.S hM) tt_10 (T := TX10) (N := 98) rfl (t_X10_finds_2 l dC dI dA L_7 h_8 H.size x hT (gx.S hM) qdb (gqdb.S hM) ((hM.o gx trivial rfl).2.trans f_x_82) qrg (gqrg.S hM) ((hM.o gx trivial rfl).2.trans f_x_89) qbr (gqbr.S hM) ((hM.o gx trivial rfl).2.trans f_x_88) w_12 fw_12) (cwV 0 hts (hx_gV kw_1698 kw_1695 kw_1697 kw_87 kw_103) rfl rfl rfl (by decide +kernel) ⟨Nat.le_of_ble_eq_true rfl, Nat.le_of_ble_eq_true rfl⟩) rfl hl.1 rfl (Nat.le_of_ble_eq_true rfl) dX10_net_23 ⟨Nat.le_of_ble_eq_true rfl, Nat.le_of_ble_eq_true rfl⟩) hW (fun L_13 h_14 H locs p_16 hW => ?_)
        obtain ⟨⟨w_18, w_19, w_20, fw_18, fw_19, fw_20, hr_17⟩, hT, hs⟩ := p_16
        replace hT : hx_T T_tb L_13 h_14 := hT
        replace hs : hx_S T_tb [(10, 86), (10, 87), (110, 0), (111, 0)] L_7 h_8 L_13 h_14 := hs
        replace ffw14_x_59 := (hs.o (gx.S hM) trivial rfl).1.trans ffw14_x_59
        replace ffw14_x_84 := (hs.o (gx.S hM) trivial rfl).1.trans ffw14_x_84
        replace nia14_qpo : h_14.2.1 qpo = ia14_qpo := (funext fun j => (hs.a (gqpo.S hM) rfl j).1).trans nia14_qpo
        replace nia14_qpd : h_14.2.1 qpd = ia14_qpd := (funext fun j => (hs.a (gqpd.S hM) rfl j).1).trans nia14_qpd
        replace nia14_qps : h_14.2.1 qps = ia14_qps := (funext fun j => (hs.a (gqps.S hM) rfl j).1).trans nia14_qps
        replace nia14_qpk : h_14.2.1 qpk = ia14_qpk := (funext fun j => (hs.a (gqpk.S hM) rfl j).1).trans nia14_qpk
        replace nia14_qpt : h_14.2.1 qpt = ia14_qpt := (funext fun j => (hs.a (gqpt.S hM) rfl j).1).trans nia14_qpt
        replace fw_12 : h_14.2.1 qdb = w_12 := (funext fun j => (hs.a (gqdb.S hM) rfl j).1).trans fw_12
        replace hM := hM.tr (hs.mono (by decide))
        have fw_18 : h_14.2.1 x 86 = w_18 := fw_18
        have bw_18 := hT.gi (gx.S hM) tt_10 (k := 86) rfl
        rw [fw_18] at bw_18
        have bw_18 : -2147483648 ≤ w_18.toInt ∧ w_18.toInt ≤ 2147483647 := bw_18
        have fw_19 : h_14.2.1 x 87 = w_19 := fw_19
        have bw_19 := hT.gi (gx.S hM) tt_10 (k := 87) rfl
        rw [fw_19] at bw_19
        have bw_19 : 0 ≤ w_19.toInt ∧ w_19.toInt ≤ 4 := bw_19
        have fw_20 : h_14.2.1 qbr = w_20 := fw_20
        have hbl := hr_17.1
        refine lv_iconst (v := 0) hx hb dX10_net_26 (by decide) ?_
        refine lv_istore_n (lv' := [(3, .int (0 : Int32)), (2, .int iv14_2), (1, .int iv14_1), (0, .ref x)]) hx hb dX10_net_27 rfl hl (by decide) rfl (fun ls hl => ?_)
        refine lv_iconst (v := 0) hx hb dX10_net_28 (by decide) ?_
        refine lv_istore (lv' := [(4, .int (0 : Int32)), (3, .int (0 : Int32)), (2, .int iv14_2), (1, .int iv14_1), (0, .ref x)]) hx hb dX10_net_29 hl (by decide) rfl (fun ls hl => ?_)
        have loop31 : ∀ (n31 : Nat) (iv31_3 iv31_4 : Int32) (H : Heap) (locs : List Loc) (hL1 : List Nat) (hl1 : hx_h), 0 ≤ iv31_3.toInt → iv31_3.toInt ≤ 400 → 0 ≤ iv31_4.toInt → iv31_4.toInt ≤ 4 → (iv31_3.toInt ≤ 100 * iv31_4.toInt) → (iv31_3.toInt = hx_nd (fun c => hx_Rn odf svf szf gdf owf plf rf ia14_qpo ia14_qpd ia14_qps ia14_qpk ia14_qpt nw0.toInt fw14_x_59.toInt.toNat c) agf byf w_20 w_19.toInt w_18.toInt c0.toInt.toNat (iv31_4.toInt : Int).toNat) → (iv31_4.toInt ≤ w_19.toInt) → ∀ (ls : Array Slot), 4 - iv31_4.toInt < (n31 : Int) → hx_W T_tb (P_ty dA) (dC, dI) vwCl (hx_A L sz) s.heap hL1 hl1 s H locs → hx_T T_tb hL1 hl1 → hx_S T_tb [(10, 59), (10, 67), (10, 68), (10, 69), (10, 70), (10, 71), (10, 83), (10, 84), (10, 86), (10, 87), (93, 0), (94, 0), (95, 0), (96, 0), (97, 0), (108, 0), (109, 0), (110, 0), (111, 0)] L h hL1 hl1 → hl1.2.1 x 59 = fw14_x_59 → hl1.2.1 x 84 = fw14_x_84 → hl1.2.1 x 86 = w_18 → hl1.2.1 x 87 = w_19 → hl1.2.1 qpo = ia14_qpo → hl1.2.1 qpd = ia14_qpd → hl1.2.1 qps = ia14_qps → hl1.2.1 qpk = ia14_qpk → hl1.2.1 qpt = ia14_qpt → hl1.2.1 qdb = w_12 → hl1.2.1 qbr = w_20 → lv_has ls 5 [(4, .int iv31_4), (3, .int iv31_3), (2, .int iv14_2), (1, .int iv14_1), (0, .ref x)] → W p l e ({ frames := 4, cells := 0, slots := 0, locals := 99 }) s m ([.ref x] : List Value).toArray below meth c H locs 0 0 (MQ below (va_Qi (fun (r : Int32) (u : List Nat × hx_h) => (True) ∧ hx_T T_tb u.1 u.2 ∧ hx_S T_tb [(10, 59), (10, 67), (10, 68), (10, 69), (10, 70), (10, 71), (10, 83), (10, 84), (10, 86), (10, 87), (93, 0), (94, 0), (95, 0), (96, 0), (97, 0), (108, 0), (109, 0), (110, 0), (111, 0)] L h u.1 u.2) (hx_E T_tb (P_ty dA) (dC, dI) vwCl (hx_A L sz)) (hx_A L sz)) ([.ref x] : List Value).toArray s 0 0 (hx_A L sz)) (F0 m 31 ls []) := by
          intro n31
          induction n31 with
          | zero => intro iv31_3 iv31_4 H locs hL1 hl1 bliv31_3 buiv31_3 bliv31_4 buiv31_4 vi31_0 vi31_1 vi31_2 ls hn31; exfalso; omega
          | succ n31 ih31 =>
            intro iv31_3 iv31_4 H locs hL1 hl1 bliv31_3 buiv31_3 bliv31_4 buiv31_4 vi31_0 vi31_1 vi31_2 ls hn31 hW hT hM ffw14_x_59 ffw14_x_84 fw_18 fw_19 nia14_qpo nia14_qpd nia14_qps nia14_qpk nia14_qpt fw_12 fw_20 hl
            refine lv_iload hx hb dX10_net_31 (lv_at hl 0 rfl) ?_
            refine lv_aload_n hx hb dX10_net_33 rfl (lv_at hl 4 rfl) ?_
            refine hk_geti hx hb hts hC_10 hown hW (gx.S hM) tt_10 87 (by decide) rfl kw_1230 ⟨rfl, rfl, rfl⟩ fw_19 dX10_net_34 ?_
            refine hb_icmp_ge (zx := iv31_4.toInt) (zy := w_19.toInt) (tgt := 79) hx hb rfl rfl dX10_net_37 (by decide) (fun c_21 => ?_) (fun c_21 => ?_)
            · skip
              refine lv_aload_n hx hb dX10_net_79 rfl (lv_at hl 4 rfl) ?_
              refine hk_geti hx hb hts hC_10 hown hW (gx.S hM) tt_10 87 (by decide) rfl kw_1230 ⟨rfl, rfl, rfl⟩ fw_19 dX10_net_80 ?_
              refine hb_if_le (zx := w_19.toInt) (tgt := 102) hx hb rfl dX10_net_83 (by decide) (fun c_22 => ?_) (fun c_22 => ?_)
              · skip
                refine lv_iconst (v := 0) hx hb dX10_net_102 (by decide) ?_
                refine lv_istore_n (lv' := [(2, .int (0 : Int32)), (4, .int iv31_4), (3, .int iv31_3), (1, .int iv14_1), (0, .ref x)]) hx hb dX10_net_103 rfl hl (by decide) rfl (fun ls hl => ?_)
                refine lv_iload_n hx hb dX10_net_104 rfl (lv_at hl 0 rfl) ?_
                refine hb_if_ne (zx := 0) (tgt := 111) hx hb (by decide) dX10_net_105 (by decide) (fun c_23 => absurd c_23 (by decide)) (fun c_23 => ?_)
                refine lv_goto (tgt := 198) hx hb dX10_net_108 (by decide) ?_
                refine lv_iload_n hx hb dX10_net_198 rfl (lv_at hl 3 rfl) ?_
                exact hx_reti hx hb hr hlk hW ⟨trivial, hT, hM⟩ dX10_net_199
              · skip
                refine lv_aload_n hx hb dX10_net_86 rfl (lv_at hl 4 rfl) ?_
                refine hk_geti hx hb hts hC_10 hown hW (gx.S hM) tt_10 59 (by decide) rfl kw_1202 ⟨rfl, rfl, rfl⟩ ffw14_x_59 dX10_net_87 ?_
                refine lv_iload_n hx hb dX10_net_90 rfl (lv_at hl 1 rfl) ?_
                refine lv_iadd hx hb dX10_net_91 ?_
                have rg_24 := i32_r fw14_x_59
                have rg_25 := i32_r iv31_3
                refine lv_topi (fun x_26 ex_26 => ?_)
                have zx_26 : x_26.toInt = fw14_x_59.toInt + iv31_3.toInt := by rw [ex_26]; exact i32_add rfl rfl (by omega) (by omega)
                refine lv_sipush (v := 600) hx hb dX10_net_92 (by decide) ?_
                refine hb_icmp_gt (zx := x_26.toInt) (zy := 600) (tgt := 102) hx hb rfl (by decide) dX10_net_95 (by decide) (fun c_27 => ?_) (fun c_27 => ?_)
                · skip
                  refine lv_iconst (v := 0) hx hb dX10_net_102 (by decide) ?_
                  refine lv_istore_n (lv' := [(2, .int (0 : Int32)), (4, .int iv31_4), (3, .int iv31_3), (1, .int iv14_1), (0, .ref x)]) hx hb dX10_net_103 rfl hl (by decide) rfl (fun ls hl => ?_)
                  refine lv_iload_n hx hb dX10_net_104 rfl (lv_at hl 0 rfl) ?_
                  refine hb_if_ne (zx := 0) (tgt := 111) hx hb (by decide) dX10_net_105 (by decide) (fun c_28 => absurd c_28 (by decide)) (fun c_28 => ?_)
                  refine lv_goto (tgt := 198) hx hb dX10_net_108 (by decide) ?_
                  refine lv_iload_n hx hb dX10_net_198 rfl (lv_at hl 3 rfl) ?_
                  exact hx_reti hx hb hr hlk hW ⟨trivial, hT, hM⟩ dX10_net_199
                · skip
                  refine lv_iconst (v := 1) hx hb dX10_net_98 (by decide) ?_
                  refine lv_goto (tgt := 103) hx hb dX10_net_99 (by decide) ?_
                  refine lv_istore_n (lv' := [(2, .int (1 : Int32)), (4, .int iv31_4), (3, .int iv31_3), (1, .int iv14_1), (0, .ref x)]) hx hb dX10_net_103 rfl hl (by decide) rfl (fun ls hl => ?_)
                  refine lv_iload_n hx hb dX10_net_104 rfl (lv_at hl 0 rfl) ?_
                  refine hb_if_ne (zx := 1) (tgt := 111) hx hb (by decide) dX10_net_105 (by decide) (fun c_29 => ?_) (fun c_29 => absurd c_29 (by decide))
                  have hbs : w_19.toInt ≠ 0 := by omega
                  have hag : ∀ c : Nat, (c : Int) < 100 → 0 ≤ (agf c).toInt ∧ (agf c).toInt ≤ 39 ∧ 0 ≤ (byf c).toInt ∧ (byf c).toInt ≤ 39 := fun c hc => by have q1 := hT.ei (gqag.S hM) tt_73 (k := c) (by omega); have q2 := hT.ei (gqby.S hM) tt_72 (k := c) (by omega); rw [(hx_afS hM gqag rfl af_qag)] at q1; rw [(hx_afS hM gqby rfl af_qby)] at q2; exact ⟨q1.1, q1.2, q2.1, q2.2⟩
                  have hnp := hx_nd_pos hr_11 hr_17 hbs hag (by omega) w_19.toInt.toNat (by omega)
                  have hb2 := (hr_17.2.resolve_left hbs).1
                  have hnn := vi31_1
                  rw [show iv31_4.toInt = w_19.toInt from by omega] at hnn
                  refine lv_iconst (v := 0) hx hb dX10_net_111 (by decide) ?_
                  refine lv_istore (lv' := [(4, .int (0 : Int32)), (2, .int (1 : Int32)), (3, .int iv31_3), (1, .int iv14_1), (0, .ref x)]) hx hb dX10_net_112 hl (by decide) rfl (fun ls hl => ?_)
                  have loop114 : ∀ (n114 : Nat) (iv114_4 fw114_x_59 : Int32) (ia114_qpo ia114_qpd ia114_qps ia114_qpk ia114_qpt : Nat → Int32) (H : Heap) (locs : List Loc) (hL1 : List Nat) (hl1 : hx_h), 0 ≤ iv114_4.toInt → iv114_4.toInt ≤ 4 → 0 ≤ fw114_x_59.toInt → fw114_x_59.toInt ≤ 600 → (fw114_x_59.toInt = fw14_x_59.toInt + hx_nd (fun c => hx_Rn odf svf szf gdf owf plf rf ia14_qpo ia14_qpd ia14_qps ia14_qpk ia14_qpt nw0.toInt fw14_x_59.toInt.toNat c) agf byf w_20 w_19.toInt w_18.toInt c0.toInt.toNat (iv114_4.toInt : Int).toNat) → (∀ c : Int, (∀ j : Nat, (j : Int) < iv114_4.toInt → (agf c.toNat).toInt ≠ (w_20 j).toInt) → hx_Rn odf svf szf gdf owf plf rf ia114_qpo ia114_qpd ia114_qps ia114_qpk ia114_qpt nw0.toInt fw114_x_59.toInt.toNat c = hx_Rn odf svf szf gdf owf plf rf ia14_qpo ia14_qpd ia14_qps ia14_qpk ia14_qpt nw0.toInt fw14_x_59.toInt.toNat c) → (iv114_4.toInt ≤ w_19.toInt) → ∀ (ls : Array Slot), 4 - iv114_4.toInt < (n114 : Int) → hx_W T_tb (P_ty dA) (dC, dI) vwCl (hx_A L sz) s.heap hL1 hl1 s H locs → hx_T T_tb hL1 hl1 → hx_S T_tb [(10, 59), (10, 67), (10, 68), (10, 69), (10, 70), (10, 71), (10, 83), (10, 84), (10, 86), (10, 87), (93, 0), (94, 0), (95, 0), (96, 0), (97, 0), (108, 0), (109, 0), (110, 0), (111, 0)] L h hL1 hl1 → hl1.2.1 x 59 = fw114_x_59 → hl1.2.1 x 84 = fw14_x_84 → hl1.2.1 x 86 = w_18 → hl1.2.1 x 87 = w_19 → hl1.2.1 qpo = ia114_qpo → hl1.2.1 qpd = ia114_qpd → hl1.2.1 qps = ia114_qps → hl1.2.1 qpk = ia114_qpk → hl1.2.1 qpt = ia114_qpt → hl1.2.1 qdb = w_12 → hl1.2.1 qbr = w_20 → lv_has ls 5 [(4, .int iv114_4), (2, .int (1 : Int32)), (3, .int iv31_3), (1, .int iv14_1), (0, .ref x)] → W p l e ({ frames := 4, cells := 0, slots := 0, locals := 99 }) s m ([.ref x] : List Value).toArray below meth c H locs 0 0 (MQ below (va_Qi (fun (r : Int32) (u : List Nat × hx_h) => (True) ∧ hx_T T_tb u.1 u.2 ∧ hx_S T_tb [(10, 59), (10, 67), (10, 68), (10, 69), (10, 70), (10, 71), (10, 83), (10, 84), (10, 86), (10, 87), (93, 0), (94, 0), (95, 0), (96, 0), (97, 0), (108, 0), (109, 0), (110, 0), (111, 0)] L h u.1 u.2) (hx_E T_tb (P_ty dA) (dC, dI) vwCl (hx_A L sz)) (hx_A L sz)) ([.ref x] : List Value).toArray s 0 0 (hx_A L sz)) (F0 m 114 ls []) := by
                    intro n114
                    induction n114 with
                    | zero => intro iv114_4 fw114_x_59 ia114_qpo ia114_qpd ia114_qps ia114_qpk ia114_qpt H locs hL1 hl1 bliv114_4 buiv114_4 blfw114_x_59 bufw114_x_59 vi114_0 vi114_1 vi114_2 ls hn114; exfalso; omega
                    | succ n114 ih114 =>
                      intro iv114_4 fw114_x_59 ia114_qpo ia114_qpd ia114_qps ia114_qpk ia114_qpt H locs hL1 hl1 bliv114_4 buiv114_4 blfw114_x_59 bufw114_x_59 vi114_0 vi114_1 vi114_2 ls hn114 hW hT hM ffw114_x_59 ffw14_x_84 fw_18 fw_19 nia114_qpo nia114_qpd nia114_qps nia114_qpk nia114_qpt fw_12 fw_20 hl
                      refine lv_iload hx hb dX10_net_114 (lv_at hl 0 rfl) ?_
                      refine lv_aload_n hx hb dX10_net_116 rfl (lv_at hl 4 rfl) ?_
                      refine hk_geti hx hb hts hC_10 hown hW (gx.S hM) tt_10 87 (by decide) rfl kw_1230 ⟨rfl, rfl, rfl⟩ fw_19 dX10_net_117 ?_
                      refine hb_icmp_ge (zx := iv114_4.toInt) (zy := w_19.toInt) (tgt := 160) hx hb rfl rfl dX10_net_120 (by decide) (fun c_30 => ?_) (fun c_30 => ?_)
                      · skip
                        have hpe := vi114_0
                        rw [show iv114_4.toInt = w_19.toInt from by omega] at hpe
                        refine lv_aload_n hx hb dX10_net_160 rfl (lv_at hl 4 rfl) ?_
                        refine hx_getn hx hb hts hC_10 hown hW hT (gx.S hM) tt_10 85 (by decide) rfl kw_1228 ⟨rfl, rfl, rfl⟩ dX10_net_161 (fun q_31 fq_31 gq_31 => ?_)
                        refine lv_aload_n hx hb dX10_net_164 rfl (lv_at hl 4 rfl) ?_
                        refine hk_geti hx hb hts hC_10 hown hW (gx.S hM) tt_10 84 (by decide) rfl kw_1227 ⟨rfl, rfl, rfl⟩ ffw14_x_84 dX10_net_165 ?_
                        refine lv_aload_n hx hb dX10_net_168 rfl (lv_at hl 4 rfl) ?_
                        refine hk_geti hx hb hts hC_10 hown hW (gx.S hM) tt_10 86 (by decide) rfl kw_1229 ⟨rfl, rfl, rfl⟩ fw_18 dX10_net_169 ?_
                        refine hx_iast hx hb hW hT (hx_S.rf (M := [(109, 0)])) gq_31 tt_109 rfl ⟨by omega, by omega⟩ rfl (i32_r _) (List.mem_singleton.mpr rfl) dX10_net_172 (fun H locs h_32 eh_32 hW hT hs => ?_)
                        replace ffw14_x_84 := (hs.o (gx.S hM) trivial rfl).1.trans ffw14_x_84
                        replace fw_18 := (hs.o (gx.S hM) trivial rfl).1.trans fw_18
                        replace fw_19 := (hs.o (gx.S hM) trivial rfl).1.trans fw_19
                        replace ffw114_x_59 := (hs.o (gx.S hM) trivial rfl).1.trans ffw114_x_59
                        replace fq_31 := (hs.o (gx.S hM) trivial rfl).2.trans fq_31
                        replace fw_12 : h_32.2.1 qdb = w_12 := (funext fun j => (hs.a (gqdb.S hM) rfl j).1).trans fw_12
                        replace fw_20 : h_32.2.1 qbr = w_20 := (funext fun j => (hs.a (gqbr.S hM) rfl j).1).trans fw_20
                        replace nia114_qpo : h_32.2.1 qpo = ia114_qpo := (funext fun j => (hs.a (gqpo.S hM) rfl j).1).trans nia114_qpo
                        replace nia114_qpd : h_32.2.1 qpd = ia114_qpd := (funext fun j => (hs.a (gqpd.S hM) rfl j).1).trans nia114_qpd
                        replace nia114_qps : h_32.2.1 qps = ia114_qps := (funext fun j => (hs.a (gqps.S hM) rfl j).1).trans nia114_qps
                        replace nia114_qpk : h_32.2.1 qpk = ia114_qpk := (funext fun j => (hs.a (gqpk.S hM) rfl j).1).trans nia114_qpk
                        replace nia114_qpt : h_32.2.1 qpt = ia114_qpt := (funext fun j => (hs.a (gqpt.S hM) rfl j).1).trans nia114_qpt
                        replace hM := hM.tr (hs.mono (by decide))
                        replace gq_31 := gq_31.S hs
                        refine lv_aload_n hx hb dX10_net_173 rfl (lv_at hl 4 rfl) ?_
                        refine lv_dup hx hb dX10_net_174 rfl ?_
                        refine hk_geti hx hb hts hC_10 hown hW (gx.S hM) tt_10 84 (by decide) rfl kw_1227 ⟨rfl, rfl, rfl⟩ ffw14_x_84 dX10_net_175 ?_
                        refine lv_iconst (v := 1) hx hb dX10_net_178 (by decide) ?_
                        refine lv_iadd hx hb dX10_net_179 ?_
                        have rg_33 := i32_r fw14_x_84
                        refine lv_topi (fun x_34 ex_34 => ?_)
                        have zx_34 : x_34.toInt = fw14_x_84.toInt + 1 := by rw [ex_34]; exact i32_add rfl (by decide) (by omega) (by omega)
                        refine hx_puti hx hb hts hC_10 hown hW hT (hx_S.rf (M := [(10, 84)])) (gx.S hM) tt_10 84 (by decide) rfl kw_1227 ⟨rfl, rfl, rfl⟩ rfl (x := x_34) ⟨by omega, by omega⟩ rfl rfl rfl (List.mem_singleton.mpr rfl) dX10_net_180 (fun H locs h_35 eh_35 hW hT hs => ?_)
                        replace fw_18 := (hs.o (gx.S hM) trivial rfl).1.trans fw_18
                        replace fw_19 := (hs.o (gx.S hM) trivial rfl).1.trans fw_19
                        replace ffw114_x_59 := (hs.o (gx.S hM) trivial rfl).1.trans ffw114_x_59
                        replace fq_31 := (hs.o (gx.S hM) trivial rfl).2.trans fq_31
                        replace fw_12 : h_35.2.1 qdb = w_12 := (funext fun j => (hs.a (gqdb.S hM) rfl j).1).trans fw_12
                        replace fw_20 : h_35.2.1 qbr = w_20 := (funext fun j => (hs.a (gqbr.S hM) rfl j).1).trans fw_20
                        replace nia114_qpo : h_35.2.1 qpo = ia114_qpo := (funext fun j => (hs.a (gqpo.S hM) rfl j).1).trans nia114_qpo
                        replace nia114_qpd : h_35.2.1 qpd = ia114_qpd := (funext fun j => (hs.a (gqpd.S hM) rfl j).1).trans nia114_qpd
                        replace nia114_qps : h_35.2.1 qps = ia114_qps := (funext fun j => (hs.a (gqps.S hM) rfl j).1).trans nia114_qps
                        replace nia114_qpk : h_35.2.1 qpk = ia114_qpk := (funext fun j => (hs.a (gqpk.S hM) rfl j).1).trans nia114_qpk
                        replace nia114_qpt : h_35.2.1 qpt = ia114_qpt := (funext fun j => (hs.a (gqpt.S hM) rfl j).1).trans nia114_qpt
                        replace hM := hM.tr (hs.mono (by decide))
                        replace gq_31 := gq_31.S hs
                        have f_36 : h_35.2.1 x 84 = x_34 := by rw [eh_35]; exact hx_pi_at _ _ _ _
                        refine lv_iload_n hx hb dX10_net_183 rfl (lv_at hl 3 rfl) ?_
                        refine lv_aload_n hx hb dX10_net_184 rfl (lv_at hl 4 rfl) ?_
                        refine hk_geti hx hb hts hC_10 hown hW (gx.S hM) tt_10 86 (by decide) rfl kw_1229 ⟨rfl, rfl, rfl⟩ fw_18 dX10_net_185 ?_
                        refine lv_aload_n hx hb dX10_net_188 rfl (lv_at hl 4 rfl) ?_
                        refine hk_geti hx hb hts hC_10 hown hW (gx.S hM) tt_10 87 (by decide) rfl kw_1230 ⟨rfl, rfl, rfl⟩ fw_19 dX10_net_189 ?_
                        refine lv_imul hx hb dX10_net_192 ?_
                        refine lv_topi (fun x_37 ex_37 => ?_)
                        have mx_37 : w_18.toInt = 0 → x_37.toInt = 0 := fun z => by rw [ex_37]; exact hx_mul0 z
                        refine lv_iadd hx hb dX10_net_193 ?_
                        have rg_38 := i32_r iv14_1
                        have rg_39 := i32_r x_37
                        refine lv_topi (fun x_40 ex_40 => ?_)
                        refine lv_istore_n (lv' := [(1, .int x_40), (4, .int iv114_4), (2, .int (1 : Int32)), (3, .int iv31_3), (0, .ref x)]) hx hb dX10_net_194 rfl hl (by decide) rfl (fun ls hl => ?_)
                        refine lv_goto (tgt := 14) hx hb dX10_net_195 (by decide) ?_
                        have zk_1 : (1 : Int32).toInt = 1 := by decide
                        exact ih14 x_40 (1 : Int32) fw114_x_59 x_34 ia114_qpo ia114_qpd ia114_qps ia114_qpk ia114_qpt _ _ hL1 h_35 (i32_r _).1 (i32_r _).2 (by decide) (by decide) (by omega) (by omega) (by omega) (by omega) (by omega) ls (by omega) hW hT hM ffw114_x_59 f_36 nia114_qpo nia114_qpd nia114_qps nia114_qpk nia114_qpt (lv_sub hl [2, 0, 4] rfl)
                      · skip
                        refine lv_aload_n hx hb dX10_net_123 rfl (lv_at hl 4 rfl) ?_
                        refine lv_aload_n hx hb dX10_net_124 rfl (lv_at hl 4 rfl) ?_
                        refine hk_getr hx hb hts hC_10 hown hW (gx.S hM) tt_10 88 (by decide) rfl kw_1231 ⟨rfl, rfl, rfl⟩ ((hM.o gx trivial rfl).2.trans f_x_88) dX10_net_125 ?_
                        refine lv_iload hx hb dX10_net_128 (lv_at hl 0 rfl) ?_
                        refine hx_iald hx hb hW hT (gqbr.S hM) tt_110 rfl ⟨by omega, by omega⟩ dX10_net_130 (fun x_41 ex_41 lx_41 ux_41 => ?_)
                        have ax_41 : x_41 = w_20 iv114_4.toNatClampNeg := ex_41.trans (congrFun fw_20 _)
                        refine lv_aload_n hx hb dX10_net_131 rfl (lv_at hl 4 rfl) ?_
                        refine hk_getr hx hb hts hC_10 hown hW (gx.S hM) tt_10 88 (by decide) rfl kw_1231 ⟨rfl, rfl, rfl⟩ ((hM.o gx trivial rfl).2.trans f_x_88) dX10_net_132 ?_
                        refine lv_iload hx hb dX10_net_135 (lv_at hl 0 rfl) ?_
                        refine lv_iconst (v := 1) hx hb dX10_net_137 (by decide) ?_
                        refine lv_iadd hx hb dX10_net_138 ?_
                        have rg_42 := i32_r iv114_4
                        refine lv_topi (fun x_43 ex_43 => ?_)
                        have zx_43 : x_43.toInt = iv114_4.toInt + 1 := by rw [ex_43]; exact i32_add rfl (by decide) (by omega) (by omega)
                        refine lv_aload_n hx hb dX10_net_139 rfl (lv_at hl 4 rfl) ?_
                        refine hk_geti hx hb hts hC_10 hown hW (gx.S hM) tt_10 87 (by decide) rfl kw_1230 ⟨rfl, rfl, rfl⟩ fw_19 dX10_net_140 ?_
                        refine lv_irem hx hb dX10_net_143 (hx_ne0 (by omega)) ?_
                        refine lv_topi (fun x_44 ex_44 => ?_)
                        have zx_44 : 0 ≤ x_44.toInt ∧ x_44.toInt < w_19.toInt := by rw [ex_44]; exact hx_rem (by omega) (by omega)
                        have hmd : x_44.toInt = x_43.toInt % w_19.toInt := by rw [ex_44]; exact hx_remz (by omega) (by omega)
                        refine hx_iald hx hb hW hT (gqbr.S hM) tt_110 rfl ⟨by omega, by omega⟩ dX10_net_144 (fun x_45 ex_45 lx_45 ux_45 => ?_)
                        have ax_45 : x_45 = w_20 x_44.toNatClampNeg := ex_45.trans (congrFun fw_20 _)
                        refine lv_aload_n hx hb dX10_net_145 rfl (lv_at hl 4 rfl) ?_
                        refine hk_geti hx hb hts hC_10 hown hW (gx.S hM) tt_10 86 (by decide) rfl kw_1229 ⟨rfl, rfl, rfl⟩ fw_18 dX10_net_146 ?_
                        refine lv_iconst (v := 1) hx hb dX10_net_149 (by decide) ?_
                        have hne : hx_nd (fun c => hx_Rn odf svf szf gdf owf plf rf ia14_qpo ia14_qpd ia14_qps ia14_qpk ia14_qpt nw0.toInt fw14_x_59.toInt.toNat c) agf byf w_20 w_19.toInt w_18.toInt c0.toInt.toNat (x_43.toInt).toNat = hx_nd (fun c => hx_Rn odf svf szf gdf owf plf rf ia14_qpo ia14_qpd ia14_qps ia14_qpk ia14_qpt nw0.toInt fw14_x_59.toInt.toNat c) agf byf w_20 w_19.toInt w_18.toInt c0.toInt.toNat (iv114_4.toInt).toNat + (hx_tl (fun c => hx_Rn odf svf szf gdf owf plf rf ia14_qpo ia14_qpd ia14_qps ia14_qpk ia14_qpt nw0.toInt fw14_x_59.toInt.toNat c) (hx_mt agf byf x_41.toInt x_45.toInt) w_18.toInt c0.toInt.toNat).2 := hx_nd_e (by omega) zx_43 rfl ax_41 ax_45 hmd (by omega)
                        have hcg := hx_tk_cg (R := (fun c => hx_Rn odf svf szf gdf owf plf rf ia14_qpo ia14_qpd ia14_qps ia14_qpk ia14_qpt nw0.toInt fw14_x_59.toInt.toNat c)) (R1 := (fun c => hx_Rn odf svf szf gdf owf plf rf ia114_qpo ia114_qpd ia114_qps ia114_qpk ia114_qpt nw0.toInt fw114_x_59.toInt.toNat c)) (bf := byf) (s := w_18.toInt) (p := x_45.toInt) hr_17 hbs (by omega) (k := iv114_4.toInt) (by omega) rfl ax_41 vi114_1 c0.toInt.toNat
                        have hmo := hx_nd_mono (R := (fun c => hx_Rn odf svf szf gdf owf plf rf ia14_qpo ia14_qpd ia14_qps ia14_qpk ia14_qpt nw0.toInt fw14_x_59.toInt.toNat c)) (ag := agf) (bf := byf) (br := w_20) (n := w_19.toInt) (l := w_18.toInt) (cn := c0.toInt.toNat) (x_43.toInt).toNat (w_19.toInt).toNat (by omega)
                        have zc_1 : (1 : Int32).toInt = 1 := by decide
                        refine hx_goi (hx_runV (As := [.int x_41, .int x_45, .int w_18, .int (1 : Int32)]) (rest := []) ⟨hx, hb, hml, hown, hts⟩ hW (gx.S hM) tt_10 (T := TX10) (N := 98) rfl (t_X10_takes_1 l dC dI dA hL1 hl1 H.size x x_41 x_45 w_18 hT (gx.S hM) qod (gqod.S hM) ((hM.o gx trivial rfl).2.trans f_x_48) qsv (gqsv.S hM) ((hM.o gx trivial rfl).2.trans f_x_50) qsz (gqsz.S hM) ((hM.o gx trivial rfl).2.trans f_x_49) qgd (gqgd.S hM) ((hM.o gx trivial rfl).2.trans f_x_56) qow (gqow.S hM) ((hM.o gx trivial rfl).2.trans f_x_55) qpl (gqpl.S hM) ((hM.o gx trivial rfl).2.trans f_x_44) qru (gqru.S hM) ((hM.o gx trivial rfl).2.trans f_x_3) qpo (gqpo.S hM) ((hM.o gx trivial rfl).2.trans f_x_60) qpd (gqpd.S hM) ((hM.o gx trivial rfl).2.trans f_x_61) qps (gqps.S hM) ((hM.o gx trivial rfl).2.trans f_x_62) qpk (gqpk.S hM) ((hM.o gx trivial rfl).2.trans f_x_63) qpt (gqpt.S hM) ((hM.o gx trivial rfl).2.trans f_x_64) qag (gqag.S hM) ((hM.o gx trivial rfl).2.trans f_x_38) qby (gqby.S hM) ((hM.o gx trivial rfl).2.trans f_x_37) odf (hx_afS hM gqod rfl af_qod) svf (hx_afS hM gqsv rfl af_qsv) szf (hx_afS hM gqsz rfl af_qsz) gdf (hx_afS hM gqgd rfl af_qgd) owf (hx_afS hM gqow rfl af_qow) plf (hx_afS hM gqpl rfl af_qpl) rf (hx_afS hM gqru rfl af_qru) ia114_qpo nia114_qpo ia114_qpd nia114_qpd ia114_qps nia114_qps ia114_qpk nia114_qpk ia114_qpt nia114_qpt agf (hx_afS hM gqag rfl af_qag) byf (hx_afS hM gqby rfl af_qby) nw0 ((hM.o gx trivial rfl).1.trans f_x_0) fw114_x_59 ffw114_x_59 c0 ((hM.o gx trivial rfl).1.trans f_x_36) ⟨by omega, (i32_r _).2⟩ (by omega)) (cwV 4 hts (hx_gV kw_1709 kw_1706 kw_1708 kw_89 kw_103) rfl rfl rfl (by decide +kernel) ⟨Nat.le_of_ble_eq_true rfl, Nat.le_of_ble_eq_true rfl⟩) rfl hl.1 rfl (Nat.le_of_ble_eq_true rfl) dX10_net_150 ⟨Nat.le_of_ble_eq_true rfl, Nat.le_of_ble_eq_true rfl⟩) hW (fun r_48 L_46 h_47 H locs p_49 hW => ?_)
                        obtain ⟨⟨w_51, w_52, w_53, w_54, w_55, w_56, fw_51, fw_52, fw_53, fw_54, fw_55, fw_56, hr_50⟩, hT, hs⟩ := p_49
                        replace hT : hx_T T_tb L_46 h_47 := hT
                        replace hs : hx_S T_tb [(10, 59), (10, 67), (10, 68), (10, 69), (10, 70), (10, 71), (93, 0), (94, 0), (95, 0), (96, 0), (97, 0)] hL1 hl1 L_46 h_47 := hs
                        replace ffw14_x_84 := (hs.o (gx.S hM) trivial rfl).1.trans ffw14_x_84
                        replace fw_18 := (hs.o (gx.S hM) trivial rfl).1.trans fw_18
                        replace fw_19 := (hs.o (gx.S hM) trivial rfl).1.trans fw_19
                        replace fw_12 : h_47.2.1 qdb = w_12 := (funext fun j => (hs.a (gqdb.S hM) rfl j).1).trans fw_12
                        replace fw_20 : h_47.2.1 qbr = w_20 := (funext fun j => (hs.a (gqbr.S hM) rfl j).1).trans fw_20
                        replace ex_41 := ex_41.trans (hs.a (gqbr.S hM) rfl _).1.symm
                        replace ex_45 := ex_45.trans (hs.a (gqbr.S hM) rfl _).1.symm
                        replace hM := hM.tr (hs.mono (by decide))
                        have fw_51 : h_47.2.1 x 59 = w_51 := fw_51
                        have bw_51 := hT.gi (gx.S hM) tt_10 (k := 59) rfl
                        rw [fw_51] at bw_51
                        have bw_51 : 0 ≤ w_51.toInt ∧ w_51.toInt ≤ 600 := bw_51
                        have fw_52 : h_47.2.1 qpo = w_52 := fw_52
                        have fw_53 : h_47.2.1 qpd = w_53 := fw_53
                        have fw_54 : h_47.2.1 qps = w_54 := fw_54
                        have fw_55 : h_47.2.1 qpk = w_55 := fw_55
                        have fw_56 : h_47.2.1 qpt = w_56 := fw_56
                        have htk := hr_50
                        have htk1 := htk.1
                        refine lv_pop hx hb dX10_net_153 rfl ?_
                        obtain ⟨x_57, ex_57⟩ : ∃ y : Int32, y = iv114_4 + Int32.ofInt 1 := ⟨_, rfl⟩
                        have zx_57 : x_57.toInt = iv114_4.toInt + (1) := by rw [ex_57]; exact i32_add rfl (by decide) (by omega) (by omega)
                        refine lv_iinc (v := x_57) (lv' := [(4, .int x_57), (2, .int (1 : Int32)), (3, .int iv31_3), (1, .int iv14_1), (0, .ref x)]) hx hb dX10_net_154 hl (k := 0) rfl ex_57.symm (by decide) rfl (fun ls hl => ?_)
                        refine lv_goto (tgt := 114) hx hb dX10_net_157 (by decide) ?_
                        exact ih114 x_57 w_51 w_52 w_53 w_54 w_55 w_56 _ _ L_46 h_47 (by omega) (by omega) (by omega) (by omega) (by rw [show x_57.toInt = x_43.toInt from by omega]; omega) (hx_tk_next (by omega) zx_57 rfl ax_41 vi114_1 htk.2) (by omega) ls (by omega) hW hT hM fw_51 ffw14_x_84 fw_18 fw_19 fw_52 fw_53 fw_54 fw_55 fw_56 fw_12 fw_20 (lv_sub hl [0, 1, 2, 3, 4] rfl)
                  have zk_0 : (0 : Int32).toInt = 0 := by decide
                  exact loop114 5 (0 : Int32) fw14_x_59 ia14_qpo ia14_qpd ia14_qps ia14_qpk ia14_qpt _ _ hL1 hl1 (by decide) (by decide) (by omega) (by omega) (Int.add_zero _).symm (fun _ _ => rfl) (by omega) ls (by omega) hW hT hM ffw14_x_59 ffw14_x_84 fw_18 fw_19 nia14_qpo nia14_qpd nia14_qps nia14_qpk nia14_qpt fw_12 fw_20 hl
            · skip
              refine lv_iload_n hx hb dX10_net_40 rfl (lv_at hl 1 rfl) ?_
              refine lv_aload_n hx hb dX10_net_41 rfl (lv_at hl 4 rfl) ?_
              refine lv_aload_n hx hb dX10_net_42 rfl (lv_at hl 4 rfl) ?_
              refine hk_getr hx hb hts hC_10 hown hW (gx.S hM) tt_10 88 (by decide) rfl kw_1231 ⟨rfl, rfl, rfl⟩ ((hM.o gx trivial rfl).2.trans f_x_88) dX10_net_43 ?_
              refine lv_iload hx hb dX10_net_46 (lv_at hl 0 rfl) ?_
              refine hx_iald hx hb hW hT (gqbr.S hM) tt_110 rfl ⟨by omega, by omega⟩ dX10_net_48 (fun x_58 ex_58 lx_58 ux_58 => ?_)
              have ax_58 : x_58 = w_20 iv31_4.toNatClampNeg := ex_58.trans (congrFun fw_20 _)
              refine lv_aload_n hx hb dX10_net_49 rfl (lv_at hl 4 rfl) ?_
              refine hk_getr hx hb hts hC_10 hown hW (gx.S hM) tt_10 88 (by decide) rfl kw_1231 ⟨rfl, rfl, rfl⟩ ((hM.o gx trivial rfl).2.trans f_x_88) dX10_net_50 ?_
              refine lv_iload hx hb dX10_net_53 (lv_at hl 0 rfl) ?_
              refine lv_iconst (v := 1) hx hb dX10_net_55 (by decide) ?_
              refine lv_iadd hx hb dX10_net_56 ?_
              have rg_59 := i32_r iv31_4
              refine lv_topi (fun x_60 ex_60 => ?_)
              have zx_60 : x_60.toInt = iv31_4.toInt + 1 := by rw [ex_60]; exact i32_add rfl (by decide) (by omega) (by omega)
              refine lv_aload_n hx hb dX10_net_57 rfl (lv_at hl 4 rfl) ?_
              refine hk_geti hx hb hts hC_10 hown hW (gx.S hM) tt_10 87 (by decide) rfl kw_1230 ⟨rfl, rfl, rfl⟩ fw_19 dX10_net_58 ?_
              refine lv_irem hx hb dX10_net_61 (hx_ne0 (by omega)) ?_
              refine lv_topi (fun x_61 ex_61 => ?_)
              have zx_61 : 0 ≤ x_61.toInt ∧ x_61.toInt < w_19.toInt := by rw [ex_61]; exact hx_rem (by omega) (by omega)
              have hmd : x_61.toInt = x_60.toInt % w_19.toInt := by rw [ex_61]; exact hx_remz (by omega) (by omega)
              refine hx_iald hx hb hW hT (gqbr.S hM) tt_110 rfl ⟨by omega, by omega⟩ dX10_net_62 (fun x_62 ex_62 lx_62 ux_62 => ?_)
              have ax_62 : x_62 = w_20 x_61.toNatClampNeg := ex_62.trans (congrFun fw_20 _)
              refine lv_aload_n hx hb dX10_net_63 rfl (lv_at hl 4 rfl) ?_
              refine hk_geti hx hb hts hC_10 hown hW (gx.S hM) tt_10 86 (by decide) rfl kw_1229 ⟨rfl, rfl, rfl⟩ fw_18 dX10_net_64 ?_
              refine lv_iconst (v := 0) hx hb dX10_net_67 (by decide) ?_
              have zc_0 : (0 : Int32).toInt = 0 := by decide
              refine hx_goi (hx_runV (As := [.int x_58, .int x_62, .int w_18, .int (0 : Int32)]) (rest := [.int iv31_3]) ⟨hx, hb, hml, hown, hts⟩ hW (gx.S hM) tt_10 (T := TX10) (N := 98) rfl (t_X10_takes_0 l dC dI dA hL1 hl1 H.size x x_58 x_62 w_18 hT (gx.S hM) qod (gqod.S hM) ((hM.o gx trivial rfl).2.trans f_x_48) qsv (gqsv.S hM) ((hM.o gx trivial rfl).2.trans f_x_50) qsz (gqsz.S hM) ((hM.o gx trivial rfl).2.trans f_x_49) qgd (gqgd.S hM) ((hM.o gx trivial rfl).2.trans f_x_56) qow (gqow.S hM) ((hM.o gx trivial rfl).2.trans f_x_55) qpl (gqpl.S hM) ((hM.o gx trivial rfl).2.trans f_x_44) qru (gqru.S hM) ((hM.o gx trivial rfl).2.trans f_x_3) qpo (gqpo.S hM) ((hM.o gx trivial rfl).2.trans f_x_60) qpd (gqpd.S hM) ((hM.o gx trivial rfl).2.trans f_x_61) qps (gqps.S hM) ((hM.o gx trivial rfl).2.trans f_x_62) qpk (gqpk.S hM) ((hM.o gx trivial rfl).2.trans f_x_63) qpt (gqpt.S hM) ((hM.o gx trivial rfl).2.trans f_x_64) qag (gqag.S hM) ((hM.o gx trivial rfl).2.trans f_x_38) qby (gqby.S hM) ((hM.o gx trivial rfl).2.trans f_x_37) odf (hx_afS hM gqod rfl af_qod) svf (hx_afS hM gqsv rfl af_qsv) szf (hx_afS hM gqsz rfl af_qsz) gdf (hx_afS hM gqgd rfl af_qgd) owf (hx_afS hM gqow rfl af_qow) plf (hx_afS hM gqpl rfl af_qpl) rf (hx_afS hM gqru rfl af_qru) ia14_qpo nia14_qpo ia14_qpd nia14_qpd ia14_qps nia14_qps ia14_qpk nia14_qpk ia14_qpt nia14_qpt agf (hx_afS hM gqag rfl af_qag) byf (hx_afS hM gqby rfl af_qby) nw0 ((hM.o gx trivial rfl).1.trans f_x_0) fw14_x_59 ffw14_x_59 c0 ((hM.o gx trivial rfl).1.trans f_x_36) ⟨by omega, (i32_r _).2⟩) (cwV 4 hts (hx_gV kw_1709 kw_1706 kw_1708 kw_89 kw_103) rfl rfl rfl (by decide +kernel) ⟨Nat.le_of_ble_eq_true rfl, Nat.le_of_ble_eq_true rfl⟩) rfl hl.1 rfl (Nat.le_of_ble_eq_true rfl) dX10_net_68 ⟨Nat.le_of_ble_eq_true rfl, Nat.le_of_ble_eq_true rfl⟩) hW (fun r_65 L_63 h_64 H locs p_66 hW => ?_)
              obtain ⟨hr_67, hT, hs⟩ := p_66
              replace hT : hx_T T_tb L_63 h_64 := hT
              replace hs : hx_S T_tb [(10, 67), (10, 68), (10, 69), (10, 70), (10, 71)] hL1 hl1 L_63 h_64 := hs
              replace ffw14_x_59 := (hs.o (gx.S hM) trivial rfl).1.trans ffw14_x_59
              replace ffw14_x_84 := (hs.o (gx.S hM) trivial rfl).1.trans ffw14_x_84
              replace fw_18 := (hs.o (gx.S hM) trivial rfl).1.trans fw_18
              replace fw_19 := (hs.o (gx.S hM) trivial rfl).1.trans fw_19
              replace nia14_qpo : h_64.2.1 qpo = ia14_qpo := (funext fun j => (hs.a (gqpo.S hM) rfl j).1).trans nia14_qpo
              replace nia14_qpd : h_64.2.1 qpd = ia14_qpd := (funext fun j => (hs.a (gqpd.S hM) rfl j).1).trans nia14_qpd
              replace nia14_qps : h_64.2.1 qps = ia14_qps := (funext fun j => (hs.a (gqps.S hM) rfl j).1).trans nia14_qps
              replace nia14_qpk : h_64.2.1 qpk = ia14_qpk := (funext fun j => (hs.a (gqpk.S hM) rfl j).1).trans nia14_qpk
              replace nia14_qpt : h_64.2.1 qpt = ia14_qpt := (funext fun j => (hs.a (gqpt.S hM) rfl j).1).trans nia14_qpt
              replace fw_12 : h_64.2.1 qdb = w_12 := (funext fun j => (hs.a (gqdb.S hM) rfl j).1).trans fw_12
              replace fw_20 : h_64.2.1 qbr = w_20 := (funext fun j => (hs.a (gqbr.S hM) rfl j).1).trans fw_20
              replace ex_58 := ex_58.trans (hs.a (gqbr.S hM) rfl _).1.symm
              replace ex_62 := ex_62.trans (hs.a (gqbr.S hM) rfl _).1.symm
              replace hM := hM.tr (hs.mono (by decide))
              have hne : hx_nd (fun c => hx_Rn odf svf szf gdf owf plf rf ia14_qpo ia14_qpd ia14_qps ia14_qpk ia14_qpt nw0.toInt fw14_x_59.toInt.toNat c) agf byf w_20 w_19.toInt w_18.toInt c0.toInt.toNat (x_60.toInt).toNat = hx_nd (fun c => hx_Rn odf svf szf gdf owf plf rf ia14_qpo ia14_qpd ia14_qps ia14_qpk ia14_qpt nw0.toInt fw14_x_59.toInt.toNat c) agf byf w_20 w_19.toInt w_18.toInt c0.toInt.toNat (iv31_4.toInt).toNat + (hx_tl (fun c => hx_Rn odf svf szf gdf owf plf rf ia14_qpo ia14_qpd ia14_qps ia14_qpk ia14_qpt nw0.toInt fw14_x_59.toInt.toNat c) (hx_mt agf byf x_58.toInt x_62.toInt) w_18.toInt c0.toInt.toNat).2 := hx_nd_e (by omega) zx_60 rfl ax_58 ax_62 hmd (by omega)
              have hcnt := hr_67.2.2
              refine lv_iadd hx hb dX10_net_71 ?_
              have rg_68 := i32_r iv31_3
              have rg_69 := i32_r r_65
              refine lv_topi (fun x_70 ex_70 => ?_)
              have zx_70 : x_70.toInt = iv31_3.toInt + r_65.toInt := by rw [ex_70]; exact i32_add rfl rfl (by omega) (by omega)
              refine lv_istore_n (lv' := [(3, .int x_70), (4, .int iv31_4), (2, .int iv14_2), (1, .int iv14_1), (0, .ref x)]) hx hb dX10_net_72 rfl hl (by decide) rfl (fun ls hl => ?_)
              obtain ⟨x_71, ex_71⟩ : ∃ y : Int32, y = iv31_4 + Int32.ofInt 1 := ⟨_, rfl⟩
              have zx_71 : x_71.toInt = iv31_4.toInt + (1) := by rw [ex_71]; exact i32_add rfl (by decide) (by omega) (by omega)
              refine lv_iinc (v := x_71) (lv' := [(4, .int x_71), (3, .int x_70), (2, .int iv14_2), (1, .int iv14_1), (0, .ref x)]) hx hb dX10_net_73 hl (k := 1) rfl ex_71.symm (by decide) rfl (fun ls hl => ?_)
              refine lv_goto (tgt := 31) hx hb dX10_net_76 (by decide) ?_
              exact ih31 x_70 x_71 _ _ L_63 h_64 (by omega) (by omega) (by omega) (by omega) (by omega) (by rw [show x_71.toInt = x_60.toInt from by omega]; omega) (by omega) ls (by omega) hW hT hM ffw14_x_59 ffw14_x_84 fw_18 fw_19 nia14_qpo nia14_qpd nia14_qps nia14_qpk nia14_qpt fw_12 fw_20 (lv_sub hl [0, 1, 2, 3, 4] rfl)
        have zk_0 : (0 : Int32).toInt = 0 := by decide
        have zk_0 : (0 : Int32).toInt = 0 := by decide
        exact loop31 5 (0 : Int32) (0 : Int32) _ _ L_13 h_14 (by decide) (by decide) (by decide) (by decide) (by omega) rfl (by omega) ls (by omega) hW hT hM ffw14_x_59 ffw14_x_84 fw_18 fw_19 nia14_qpo nia14_qpd nia14_qps nia14_qpk nia14_qpt fw_12 fw_20 hl
  have zk_0 : (0 : Int32).toInt = 0 := by decide
  have zk_1 : (1 : Int32).toInt = 1 := by decide
  have zk_0 : (0 : Int32).toInt = 0 := by decide
  exact loop14 601 (0 : Int32) (1 : Int32) fv_5 (0 : Int32) pof pdf psm pkf pst _ _ L h_3 (by decide) (by decide) (by decide) (by decide) (by omega) (by omega) (by decide) (by decide) (by omega) ls (by omega) hW hT hM ffv_5 f_4 af_qpo af_qpd af_qps af_qpk af_qpt hl
