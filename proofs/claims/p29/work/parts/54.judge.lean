def wLX10_isSo_0 : List Nat := [42, 180, 0, 129, 16, 8, 27, 104, 28, 19, 1, 12, 108, 96, 4, 100, 46, 62, 28, 19, 1, 13, 112, 54, 4, 21, 4, 17, 39, 16, 161, 0, 22, 42, 180, 0, 129, 16, 8, 27, 104, 21, 4, 96, 17, 39, 16, 100, 46, 167, 0, 5, 21, 4, 54, 5, 28, 19, 1, 13, 108, 16, 10, 112]
def wLX10_isSo_1 : List Nat := [170, 0, 0, 0, 0, 0, 0, 80, 0, 0, 0, 0, 0, 0, 0, 3, 0, 0, 0, 32, 0, 0, 0, 44, 0, 0, 0, 56, 0, 0, 0, 68, 29, 21, 5, 162, 0, 7, 4, 167, 0, 4, 3, 172, 29, 21, 5, 163, 0, 7, 4, 167, 0, 4, 3, 172, 29, 21, 5, 160, 0, 7, 4, 167]
def wLX10_isSo_2 : List Nat := [0, 4, 3, 172, 29, 21, 5, 161, 0, 7, 4, 167, 0, 4, 3, 172, 29, 21, 5, 164, 0, 7, 4, 167, 0, 4, 3, 172]
theorem wX10_isSo_0 : (cX10_isSo.data.toList.map UInt8.toNat).drop 0 = wLX10_isSo_0 ++ (wLX10_isSo_1 ++ (wLX10_isSo_2 ++ ([]))) := by decide +kernel
theorem wX10_isSo_1 : (cX10_isSo.data.toList.map UInt8.toNat).drop 64 = wLX10_isSo_1 ++ (wLX10_isSo_2 ++ ([])) := hz_wn wX10_isSo_0 rfl
theorem wX10_isSo_2 : (cX10_isSo.data.toList.map UInt8.toNat).drop 128 = wLX10_isSo_2 ++ ([]) := hz_wn wX10_isSo_1 rfl
theorem dX10_isSo_0 : decode cX10_isSo 0 = .ok (.aload_n 0, 1) := dq_42 (hz_wg wX10_isSo_0 (j := 0) (n := 42) rfl)
theorem dX10_isSo_1 : decode cX10_isSo 1 = .ok (.getfield 129, 3) := dq_180 (hz_wg wX10_isSo_0 (j := 1) (n := 180) rfl) (hz_wg wX10_isSo_0 (j := 2) (n := 0) rfl) (hz_wg wX10_isSo_0 (j := 3) (n := 129) rfl) rfl
theorem dX10_isSo_4 : decode cX10_isSo 4 = .ok (.bipush 8, 2) := dq_16 (hz_wg wX10_isSo_0 (j := 4) (n := 16) rfl) (hz_wg wX10_isSo_0 (j := 5) (n := 8) rfl) (by decide)
theorem dX10_isSo_6 : decode cX10_isSo 6 = .ok (.iload_n 1, 1) := dq_27 (hz_wg wX10_isSo_0 (j := 6) (n := 27) rfl)
theorem dX10_isSo_7 : decode cX10_isSo 7 = .ok (.imul, 1) := dq_104 (hz_wg wX10_isSo_0 (j := 7) (n := 104) rfl)
theorem dX10_isSo_8 : decode cX10_isSo 8 = .ok (.iload_n 2, 1) := dq_28 (hz_wg wX10_isSo_0 (j := 8) (n := 28) rfl)
theorem dX10_isSo_9 : decode cX10_isSo 9 = .ok (.ldc_w 268, 3) := dq_19 (hz_wg wX10_isSo_0 (j := 9) (n := 19) rfl) (hz_wg wX10_isSo_0 (j := 10) (n := 1) rfl) (hz_wg wX10_isSo_0 (j := 11) (n := 12) rfl) rfl
theorem dX10_isSo_12 : decode cX10_isSo 12 = .ok (.idiv, 1) := dq_108 (hz_wg wX10_isSo_0 (j := 12) (n := 108) rfl)
theorem dX10_isSo_13 : decode cX10_isSo 13 = .ok (.iadd, 1) := dq_96 (hz_wg wX10_isSo_0 (j := 13) (n := 96) rfl)
theorem dX10_isSo_14 : decode cX10_isSo 14 = .ok (.iconst 1, 1) := dq_4 (hz_wg wX10_isSo_0 (j := 14) (n := 4) rfl)
theorem dX10_isSo_15 : decode cX10_isSo 15 = .ok (.isub, 1) := dq_100 (hz_wg wX10_isSo_0 (j := 15) (n := 100) rfl)
theorem dX10_isSo_16 : decode cX10_isSo 16 = .ok (.iaload, 1) := dq_46 (hz_wg wX10_isSo_0 (j := 16) (n := 46) rfl)
theorem dX10_isSo_17 : decode cX10_isSo 17 = .ok (.istore_n 3, 1) := dq_62 (hz_wg wX10_isSo_0 (j := 17) (n := 62) rfl)
theorem dX10_isSo_18 : decode cX10_isSo 18 = .ok (.iload_n 2, 1) := dq_28 (hz_wg wX10_isSo_0 (j := 18) (n := 28) rfl)
theorem dX10_isSo_19 : decode cX10_isSo 19 = .ok (.ldc_w 269, 3) := dq_19 (hz_wg wX10_isSo_0 (j := 19) (n := 19) rfl) (hz_wg wX10_isSo_0 (j := 20) (n := 1) rfl) (hz_wg wX10_isSo_0 (j := 21) (n := 13) rfl) rfl
theorem dX10_isSo_22 : decode cX10_isSo 22 = .ok (.irem, 1) := dq_112 (hz_wg wX10_isSo_0 (j := 22) (n := 112) rfl)
theorem dX10_isSo_23 : decode cX10_isSo 23 = .ok (.istore 4, 2) := dq_54 (hz_wg wX10_isSo_0 (j := 23) (n := 54) rfl) (hz_wg wX10_isSo_0 (j := 24) (n := 4) rfl)
theorem dX10_isSo_25 : decode cX10_isSo 25 = .ok (.iload 4, 2) := dq_21 (hz_wg wX10_isSo_0 (j := 25) (n := 21) rfl) (hz_wg wX10_isSo_0 (j := 26) (n := 4) rfl)
theorem dX10_isSo_27 : decode cX10_isSo 27 = .ok (.sipush 10000, 3) := dq_17 (hz_wg wX10_isSo_0 (j := 27) (n := 17) rfl) (hz_wg wX10_isSo_0 (j := 28) (n := 39) rfl) (hz_wg wX10_isSo_0 (j := 29) (n := 16) rfl) (by decide)
theorem dX10_isSo_30 : decode cX10_isSo 30 = .ok (.if_icmp .lt 22, 3) := dq_161 (hz_wg wX10_isSo_0 (j := 30) (n := 161) rfl) (hz_wg wX10_isSo_0 (j := 31) (n := 0) rfl) (hz_wg wX10_isSo_0 (j := 32) (n := 22) rfl) (by decide)
theorem dX10_isSo_33 : decode cX10_isSo 33 = .ok (.aload_n 0, 1) := dq_42 (hz_wg wX10_isSo_0 (j := 33) (n := 42) rfl)
theorem dX10_isSo_34 : decode cX10_isSo 34 = .ok (.getfield 129, 3) := dq_180 (hz_wg wX10_isSo_0 (j := 34) (n := 180) rfl) (hz_wg wX10_isSo_0 (j := 35) (n := 0) rfl) (hz_wg wX10_isSo_0 (j := 36) (n := 129) rfl) rfl
theorem dX10_isSo_37 : decode cX10_isSo 37 = .ok (.bipush 8, 2) := dq_16 (hz_wg wX10_isSo_0 (j := 37) (n := 16) rfl) (hz_wg wX10_isSo_0 (j := 38) (n := 8) rfl) (by decide)
theorem dX10_isSo_39 : decode cX10_isSo 39 = .ok (.iload_n 1, 1) := dq_27 (hz_wg wX10_isSo_0 (j := 39) (n := 27) rfl)
theorem dX10_isSo_40 : decode cX10_isSo 40 = .ok (.imul, 1) := dq_104 (hz_wg wX10_isSo_0 (j := 40) (n := 104) rfl)
theorem dX10_isSo_41 : decode cX10_isSo 41 = .ok (.iload 4, 2) := dq_21 (hz_wg wX10_isSo_0 (j := 41) (n := 21) rfl) (hz_wg wX10_isSo_0 (j := 42) (n := 4) rfl)
theorem dX10_isSo_43 : decode cX10_isSo 43 = .ok (.iadd, 1) := dq_96 (hz_wg wX10_isSo_0 (j := 43) (n := 96) rfl)
theorem dX10_isSo_44 : decode cX10_isSo 44 = .ok (.sipush 10000, 3) := dq_17 (hz_wg wX10_isSo_0 (j := 44) (n := 17) rfl) (hz_wg wX10_isSo_0 (j := 45) (n := 39) rfl) (hz_wg wX10_isSo_0 (j := 46) (n := 16) rfl) (by decide)
theorem dX10_isSo_47 : decode cX10_isSo 47 = .ok (.isub, 1) := dq_100 (hz_wg wX10_isSo_0 (j := 47) (n := 100) rfl)
theorem dX10_isSo_48 : decode cX10_isSo 48 = .ok (.iaload, 1) := dq_46 (hz_wg wX10_isSo_0 (j := 48) (n := 46) rfl)
theorem dX10_isSo_49 : decode cX10_isSo 49 = .ok (.goto 5, 3) := dq_167 (hz_wg wX10_isSo_0 (j := 49) (n := 167) rfl) (hz_wg wX10_isSo_0 (j := 50) (n := 0) rfl) (hz_wg wX10_isSo_0 (j := 51) (n := 5) rfl) (by decide)
theorem dX10_isSo_52 : decode cX10_isSo 52 = .ok (.iload 4, 2) := dq_21 (hz_wg wX10_isSo_0 (j := 52) (n := 21) rfl) (hz_wg wX10_isSo_0 (j := 53) (n := 4) rfl)
theorem dX10_isSo_54 : decode cX10_isSo 54 = .ok (.istore 5, 2) := dq_54 (hz_wg wX10_isSo_0 (j := 54) (n := 54) rfl) (hz_wg wX10_isSo_0 (j := 55) (n := 5) rfl)
theorem dX10_isSo_56 : decode cX10_isSo 56 = .ok (.iload_n 2, 1) := dq_28 (hz_wg wX10_isSo_0 (j := 56) (n := 28) rfl)
theorem dX10_isSo_57 : decode cX10_isSo 57 = .ok (.ldc_w 269, 3) := dq_19 (hz_wg wX10_isSo_0 (j := 57) (n := 19) rfl) (hz_wg wX10_isSo_0 (j := 58) (n := 1) rfl) (hz_wg wX10_isSo_0 (j := 59) (n := 13) rfl) rfl
theorem dX10_isSo_60 : decode cX10_isSo 60 = .ok (.idiv, 1) := dq_108 (hz_wg wX10_isSo_0 (j := 60) (n := 108) rfl)
theorem dX10_isSo_61 : decode cX10_isSo 61 = .ok (.bipush 10, 2) := dq_16 (hz_wg wX10_isSo_0 (j := 61) (n := 16) rfl) (hz_wg wX10_isSo_0 (j := 62) (n := 10) rfl) (by decide)
theorem dX10_isSo_63 : decode cX10_isSo 63 = .ok (.irem, 1) := dq_112 (hz_wg wX10_isSo_0 (j := 63) (n := 112) rfl)
theorem dX10_isSo_64 : decode cX10_isSo 64 = .ok (.tableswitch 80 0 3 #[32, 44, 56, 68], 32) := by decide +kernel
theorem dX10_isSo_96 : decode cX10_isSo 96 = .ok (.iload_n 3, 1) := dq_29 (hz_wg wX10_isSo_1 (j := 32) (n := 29) rfl)
theorem dX10_isSo_97 : decode cX10_isSo 97 = .ok (.iload 5, 2) := dq_21 (hz_wg wX10_isSo_1 (j := 33) (n := 21) rfl) (hz_wg wX10_isSo_1 (j := 34) (n := 5) rfl)
theorem dX10_isSo_99 : decode cX10_isSo 99 = .ok (.if_icmp .ge 7, 3) := dq_162 (hz_wg wX10_isSo_1 (j := 35) (n := 162) rfl) (hz_wg wX10_isSo_1 (j := 36) (n := 0) rfl) (hz_wg wX10_isSo_1 (j := 37) (n := 7) rfl) (by decide)
theorem dX10_isSo_102 : decode cX10_isSo 102 = .ok (.iconst 1, 1) := dq_4 (hz_wg wX10_isSo_1 (j := 38) (n := 4) rfl)
theorem dX10_isSo_103 : decode cX10_isSo 103 = .ok (.goto 4, 3) := dq_167 (hz_wg wX10_isSo_1 (j := 39) (n := 167) rfl) (hz_wg wX10_isSo_1 (j := 40) (n := 0) rfl) (hz_wg wX10_isSo_1 (j := 41) (n := 4) rfl) (by decide)
theorem dX10_isSo_106 : decode cX10_isSo 106 = .ok (.iconst 0, 1) := dq_3 (hz_wg wX10_isSo_1 (j := 42) (n := 3) rfl)
theorem dX10_isSo_107 : decode cX10_isSo 107 = .ok (.ireturn, 1) := dq_172 (hz_wg wX10_isSo_1 (j := 43) (n := 172) rfl)
theorem dX10_isSo_108 : decode cX10_isSo 108 = .ok (.iload_n 3, 1) := dq_29 (hz_wg wX10_isSo_1 (j := 44) (n := 29) rfl)
theorem dX10_isSo_109 : decode cX10_isSo 109 = .ok (.iload 5, 2) := dq_21 (hz_wg wX10_isSo_1 (j := 45) (n := 21) rfl) (hz_wg wX10_isSo_1 (j := 46) (n := 5) rfl)
theorem dX10_isSo_111 : decode cX10_isSo 111 = .ok (.if_icmp .gt 7, 3) := dq_163 (hz_wg wX10_isSo_1 (j := 47) (n := 163) rfl) (hz_wg wX10_isSo_1 (j := 48) (n := 0) rfl) (hz_wg wX10_isSo_1 (j := 49) (n := 7) rfl) (by decide)
theorem dX10_isSo_114 : decode cX10_isSo 114 = .ok (.iconst 1, 1) := dq_4 (hz_wg wX10_isSo_1 (j := 50) (n := 4) rfl)
theorem dX10_isSo_115 : decode cX10_isSo 115 = .ok (.goto 4, 3) := dq_167 (hz_wg wX10_isSo_1 (j := 51) (n := 167) rfl) (hz_wg wX10_isSo_1 (j := 52) (n := 0) rfl) (hz_wg wX10_isSo_1 (j := 53) (n := 4) rfl) (by decide)
theorem dX10_isSo_118 : decode cX10_isSo 118 = .ok (.iconst 0, 1) := dq_3 (hz_wg wX10_isSo_1 (j := 54) (n := 3) rfl)
theorem dX10_isSo_119 : decode cX10_isSo 119 = .ok (.ireturn, 1) := dq_172 (hz_wg wX10_isSo_1 (j := 55) (n := 172) rfl)
theorem dX10_isSo_120 : decode cX10_isSo 120 = .ok (.iload_n 3, 1) := dq_29 (hz_wg wX10_isSo_1 (j := 56) (n := 29) rfl)
theorem dX10_isSo_121 : decode cX10_isSo 121 = .ok (.iload 5, 2) := dq_21 (hz_wg wX10_isSo_1 (j := 57) (n := 21) rfl) (hz_wg wX10_isSo_1 (j := 58) (n := 5) rfl)
theorem dX10_isSo_123 : decode cX10_isSo 123 = .ok (.if_icmp .ne 7, 3) := dq_160 (hz_wg wX10_isSo_1 (j := 59) (n := 160) rfl) (hz_wg wX10_isSo_1 (j := 60) (n := 0) rfl) (hz_wg wX10_isSo_1 (j := 61) (n := 7) rfl) (by decide)
theorem dX10_isSo_126 : decode cX10_isSo 126 = .ok (.iconst 1, 1) := dq_4 (hz_wg wX10_isSo_1 (j := 62) (n := 4) rfl)
theorem dX10_isSo_127 : decode cX10_isSo 127 = .ok (.goto 4, 3) := dq_167 (hz_wg wX10_isSo_1 (j := 63) (n := 167) rfl) (hz_wg wX10_isSo_2 (j := 0) (n := 0) rfl) (hz_wg wX10_isSo_2 (j := 1) (n := 4) rfl) (by decide)
theorem dX10_isSo_130 : decode cX10_isSo 130 = .ok (.iconst 0, 1) := dq_3 (hz_wg wX10_isSo_2 (j := 2) (n := 3) rfl)
theorem dX10_isSo_131 : decode cX10_isSo 131 = .ok (.ireturn, 1) := dq_172 (hz_wg wX10_isSo_2 (j := 3) (n := 172) rfl)
theorem dX10_isSo_132 : decode cX10_isSo 132 = .ok (.iload_n 3, 1) := dq_29 (hz_wg wX10_isSo_2 (j := 4) (n := 29) rfl)
theorem dX10_isSo_133 : decode cX10_isSo 133 = .ok (.iload 5, 2) := dq_21 (hz_wg wX10_isSo_2 (j := 5) (n := 21) rfl) (hz_wg wX10_isSo_2 (j := 6) (n := 5) rfl)
theorem dX10_isSo_135 : decode cX10_isSo 135 = .ok (.if_icmp .lt 7, 3) := dq_161 (hz_wg wX10_isSo_2 (j := 7) (n := 161) rfl) (hz_wg wX10_isSo_2 (j := 8) (n := 0) rfl) (hz_wg wX10_isSo_2 (j := 9) (n := 7) rfl) (by decide)
theorem dX10_isSo_138 : decode cX10_isSo 138 = .ok (.iconst 1, 1) := dq_4 (hz_wg wX10_isSo_2 (j := 10) (n := 4) rfl)
theorem dX10_isSo_139 : decode cX10_isSo 139 = .ok (.goto 4, 3) := dq_167 (hz_wg wX10_isSo_2 (j := 11) (n := 167) rfl) (hz_wg wX10_isSo_2 (j := 12) (n := 0) rfl) (hz_wg wX10_isSo_2 (j := 13) (n := 4) rfl) (by decide)
theorem dX10_isSo_142 : decode cX10_isSo 142 = .ok (.iconst 0, 1) := dq_3 (hz_wg wX10_isSo_2 (j := 14) (n := 3) rfl)
theorem dX10_isSo_143 : decode cX10_isSo 143 = .ok (.ireturn, 1) := dq_172 (hz_wg wX10_isSo_2 (j := 15) (n := 172) rfl)
theorem dX10_isSo_144 : decode cX10_isSo 144 = .ok (.iload_n 3, 1) := dq_29 (hz_wg wX10_isSo_2 (j := 16) (n := 29) rfl)
theorem dX10_isSo_145 : decode cX10_isSo 145 = .ok (.iload 5, 2) := dq_21 (hz_wg wX10_isSo_2 (j := 17) (n := 21) rfl) (hz_wg wX10_isSo_2 (j := 18) (n := 5) rfl)
theorem dX10_isSo_147 : decode cX10_isSo 147 = .ok (.if_icmp .le 7, 3) := dq_164 (hz_wg wX10_isSo_2 (j := 19) (n := 164) rfl) (hz_wg wX10_isSo_2 (j := 20) (n := 0) rfl) (hz_wg wX10_isSo_2 (j := 21) (n := 7) rfl) (by decide)
theorem dX10_isSo_150 : decode cX10_isSo 150 = .ok (.iconst 1, 1) := dq_4 (hz_wg wX10_isSo_2 (j := 22) (n := 4) rfl)
theorem dX10_isSo_151 : decode cX10_isSo 151 = .ok (.goto 4, 3) := dq_167 (hz_wg wX10_isSo_2 (j := 23) (n := 167) rfl) (hz_wg wX10_isSo_2 (j := 24) (n := 0) rfl) (hz_wg wX10_isSo_2 (j := 25) (n := 4) rfl) (by decide)
theorem dX10_isSo_154 : decode cX10_isSo 154 = .ok (.iconst 0, 1) := dq_3 (hz_wg wX10_isSo_2 (j := 26) (n := 3) rfl)
theorem dX10_isSo_155 : decode cX10_isSo 155 = .ok (.ireturn, 1) := dq_172 (hz_wg wX10_isSo_2 (j := 27) (n := 172) rfl)
set_option maxHeartbeats 4000000 in
set_option maxRecDepth 100000 in
theorem t_X10_isSo (l : Launch) (dC : Nat → ClassId) (dI : Nat → Nat → Nat) (dA : Nat → ClassId) (L : List Nat) (h : hx_h) (sz : Nat) (x : Nat) (i1 : Int32) (i2 : Int32) (hT : hx_T T_tb L h) (gx : hx_g L h x 10) (hi1 : 0 ≤ i1.toInt ∧ i1.toInt ≤ 99) (hi2 : 1000000 ≤ i2.toInt ∧ i2.toInt < 9000000 ∧ i2.toInt % 100000 < 10008) : Met l yX10_isSo (Cond.code yX10_isSo cX10_isSo 6 (some .boolean) :: hx_all) ({ frames := 0, cells := 0, slots := 0, locals := 0 }) (va_Pc [.ref x, .int i1, .int i2] (hx_B T_tb (P_ty dA) (dC, dI) vwCl L h sz)) (va_Qi (fun (r : Int32) (u : List Nat × hx_h) => (r.toInt = 0 ∨ r.toInt = 1) ∧ hx_T T_tb u.1 u.2 ∧ hx_S T_tb [] L h u.1 u.2) (hx_E T_tb (P_ty dA) (dC, dI) vwCl (hx_A L sz)) (hx_A L sz)) 0 0 (hx_A L sz) := by
  refine hx_met (lv := [(0, .ref x), (1, .int i1), (2, .int i2)]) (by decide +kernel) rfl (Nat.le_of_ble_eq_true rfl) rfl ?_
  intro p e s m below meth c hx hb hml hr hlk hts0 hown hin hsz hW ls hl
  have hts : ∀ w ∈ hx_all, w.before _ s = true := fun w hw => hts0 w (List.mem_cons_of_mem _ hw)
  have hown : s.vm.findClass "SmallCourtModel" = some m.cls := hown
  have hM : hx_S T_tb [] L h L h := hx_S.rf
  refine lv_aload_n hx hb dX10_isSo_0 rfl (lv_at hl 0 rfl) ?_
  refine hx_getn hx hb hts hC_10 hown hW hT (gx.S hM) tt_10 53 (by decide) rfl kw_1196 ⟨rfl, rfl, rfl⟩ dX10_isSo_1 (fun q_1 fq_1 gq_1 => ?_)
  refine lv_bipush (v := 8) hx hb dX10_isSo_4 (by decide) ?_
  refine lv_iload_n hx hb dX10_isSo_6 rfl (lv_at hl 1 rfl) ?_
  refine lv_imul hx hb dX10_isSo_7 ?_
  refine lv_topi (fun x_2 ex_2 => ?_)
  have zx_2 : x_2.toInt = 8 * i1.toInt := by rw [ex_2]; exact i32_mul (by decide) rfl rfl (by omega) (by omega)
  refine lv_iload_n hx hb dX10_isSo_8 rfl (lv_at hl 2 rfl) ?_
  refine lv_ldcw (v := 1000000) hx hb hown (hts _ kw_1133) dX10_isSo_9 ?_
  refine lv_idiv hx hb dX10_isSo_12 (by decide) ?_
  refine lv_topi (fun x_3 ex_3 => ?_)
  have zx_3 : x_3.toInt = i2.toInt / 1000000 := by rw [ex_3, hx_dv (by omega) (by decide)]; rfl
  refine lv_iadd hx hb dX10_isSo_13 ?_
  have rg_4 := i32_r x_2
  have rg_5 := i32_r x_3
  refine lv_topi (fun x_6 ex_6 => ?_)
  have zx_6 : x_6.toInt = x_2.toInt + x_3.toInt := by rw [ex_6]; exact i32_add rfl rfl (by omega) (by omega)
  refine lv_iconst (v := 1) hx hb dX10_isSo_14 (by decide) ?_
  refine lv_isub hx hb dX10_isSo_15 ?_
  have rg_7 := i32_r x_6
  refine lv_topi (fun x_8 ex_8 => ?_)
  have zx_8 : x_8.toInt = x_6.toInt - 1 := by rw [ex_8]; exact i32_sub rfl (by decide) (by omega) (by omega)
  refine hx_iald hx hb hW hT gq_1 tt_88 rfl ⟨by omega, by omega⟩ dX10_isSo_16 (fun x_9 ex_9 lx_9 ux_9 => ?_)
  refine lv_istore_n (lv' := [(3, .int x_9), (0, .ref x), (1, .int i1), (2, .int i2)]) hx hb dX10_isSo_17 rfl hl (by decide) rfl (fun ls hl => ?_)
  refine lv_iload_n hx hb dX10_isSo_18 rfl (lv_at hl 3 rfl) ?_
  refine lv_ldcw (v := 100000) hx hb hown (hts _ kw_1134) dX10_isSo_19 ?_
  refine lv_irem hx hb dX10_isSo_22 (by decide) ?_
  refine lv_topi (fun x_10 ex_10 => ?_)
  have zx_10 : x_10.toInt = i2.toInt % 100000 := by rw [ex_10, hx_remz (by omega) (by decide)]; rfl
  refine lv_istore (lv' := [(4, .int x_10), (3, .int x_9), (0, .ref x), (1, .int i1), (2, .int i2)]) hx hb dX10_isSo_23 hl (by decide) rfl (fun ls hl => ?_)
  refine lv_iload hx hb dX10_isSo_25 (lv_at hl 0 rfl) ?_
  refine lv_sipush (v := 10000) hx hb dX10_isSo_27 (by decide) ?_
  refine hb_icmp_lt (zx := x_10.toInt) (zy := 10000) (tgt := 52) hx hb rfl (by decide) dX10_isSo_30 (by decide) (fun c_11 => ?_) (fun c_11 => ?_)
  · skip
    refine lv_iload hx hb dX10_isSo_52 (lv_at hl 0 rfl) ?_
    refine lv_istore (lv' := [(5, .int x_10), (4, .int x_10), (3, .int x_9), (0, .ref x), (1, .int i1), (2, .int i2)]) hx hb dX10_isSo_54 hl (by decide) rfl (fun ls hl => ?_)
    refine lv_iload_n hx hb dX10_isSo_56 rfl (lv_at hl 5 rfl) ?_
    refine lv_ldcw (v := 100000) hx hb hown (hts _ kw_1134) dX10_isSo_57 ?_
    refine lv_idiv hx hb dX10_isSo_60 (by decide) ?_
    refine lv_topi (fun x_12 ex_12 => ?_)
    have zx_12 : x_12.toInt = i2.toInt / 100000 := by rw [ex_12, hx_dv (by omega) (by decide)]; rfl
    refine lv_bipush (v := 10) hx hb dX10_isSo_61 (by decide) ?_
    refine lv_irem hx hb dX10_isSo_63 (by decide) ?_
    refine lv_topi (fun x_13 ex_13 => ?_)
    have zx_13 : x_13.toInt = x_12.toInt % 10 := by rw [ex_13, hx_remz (by omega) (by decide)]; rfl
    rcases (show (x_13.toInt < 0 ∨ 3 < x_13.toInt) ∨ x_13.toInt = 0 ∨ x_13.toInt = 1 ∨ x_13.toInt = 2 ∨ x_13.toInt = 3 from by omega) with c_14 | c_14 | c_14 | c_14 | c_14
    · refine lv_tableOut (tgt := 144) hx hb dX10_isSo_64 c_14 (by decide) ?_
      refine lv_iload_n hx hb dX10_isSo_144 rfl (lv_at hl 2 rfl) ?_
      refine lv_iload hx hb dX10_isSo_145 (lv_at hl 0 rfl) ?_
      have jn_155 : ∀ (xj_15 : Int32) (ls : Array Slot), 0 ≤ xj_15.toInt → xj_15.toInt ≤ 1 → lv_has ls 6 [(5, .int x_10), (4, .int x_10), (3, .int x_9), (0, .ref x), (1, .int i1), (2, .int i2)] → W p l e ({ frames := 0, cells := 0, slots := 0, locals := 0 }) s m ([.ref x, .int i1, .int i2] : List Value).toArray below meth c s.heap [] 0 0 (MQ below (va_Qi (fun (r : Int32) (u : List Nat × hx_h) => (r.toInt = 0 ∨ r.toInt = 1) ∧ hx_T T_tb u.1 u.2 ∧ hx_S T_tb [] L h u.1 u.2) (hx_E T_tb (P_ty dA) (dC, dI) vwCl (hx_A L sz)) (hx_A L sz)) ([.ref x, .int i1, .int i2] : List Value).toArray s 0 0 (hx_A L sz)) (F0 m 155 ls [.int xj_15]) := by
        intro xj_15 ls blxj_15 buxj_15 hl
        exact hx_retz hx hb hr (hx_nar01 (by omega)) hlk hW ⟨(by omega), hT, hM⟩ dX10_isSo_155
      refine hb_icmp_le (zx := x_9.toInt) (zy := x_10.toInt) (tgt := 154) hx hb rfl rfl dX10_isSo_147 (by decide) (fun c_16 => ?_) (fun c_16 => ?_)
      · skip
        refine lv_iconst (v := 0) hx hb dX10_isSo_154 (by decide) ?_
        exact jn_155 (0 : Int32) ls (by decide) (by decide) hl
      · skip
        refine lv_iconst (v := 1) hx hb dX10_isSo_150 (by decide) ?_
        refine lv_goto (tgt := 155) hx hb dX10_isSo_151 (by decide) ?_
        exact jn_155 (1 : Int32) ls (by decide) (by decide) hl
    · refine lv_tableIn (off := 32) (tgt := 96) hx hb dX10_isSo_64 (by omega) (by omega) (by rw [c_14]; rfl) (by decide) ?_
      refine lv_iload_n hx hb dX10_isSo_96 rfl (lv_at hl 2 rfl) ?_
      refine lv_iload hx hb dX10_isSo_97 (lv_at hl 0 rfl) ?_
      have jn_107 : ∀ (xj_17 : Int32) (ls : Array Slot), 0 ≤ xj_17.toInt → xj_17.toInt ≤ 1 → lv_has ls 6 [(5, .int x_10), (4, .int x_10), (3, .int x_9), (0, .ref x), (1, .int i1), (2, .int i2)] → W p l e ({ frames := 0, cells := 0, slots := 0, locals := 0 }) s m ([.ref x, .int i1, .int i2] : List Value).toArray below meth c s.heap [] 0 0 (MQ below (va_Qi (fun (r : Int32) (u : List Nat × hx_h) => (r.toInt = 0 ∨ r.toInt = 1) ∧ hx_T T_tb u.1 u.2 ∧ hx_S T_tb [] L h u.1 u.2) (hx_E T_tb (P_ty dA) (dC, dI) vwCl (hx_A L sz)) (hx_A L sz)) ([.ref x, .int i1, .int i2] : List Value).toArray s 0 0 (hx_A L sz)) (F0 m 107 ls [.int xj_17]) := by
        intro xj_17 ls blxj_17 buxj_17 hl
        exact hx_retz hx hb hr (hx_nar01 (by omega)) hlk hW ⟨(by omega), hT, hM⟩ dX10_isSo_107
      refine hb_icmp_ge (zx := x_9.toInt) (zy := x_10.toInt) (tgt := 106) hx hb rfl rfl dX10_isSo_99 (by decide) (fun c_18 => ?_) (fun c_18 => ?_)
      · skip
        refine lv_iconst (v := 0) hx hb dX10_isSo_106 (by decide) ?_
        exact jn_107 (0 : Int32) ls (by decide) (by decide) hl
      · skip
        refine lv_iconst (v := 1) hx hb dX10_isSo_102 (by decide) ?_
        refine lv_goto (tgt := 107) hx hb dX10_isSo_103 (by decide) ?_
        exact jn_107 (1 : Int32) ls (by decide) (by decide) hl
    · refine lv_tableIn (off := 44) (tgt := 108) hx hb dX10_isSo_64 (by omega) (by omega) (by rw [c_14]; rfl) (by decide) ?_
      refine lv_iload_n hx hb dX10_isSo_108 rfl (lv_at hl 2 rfl) ?_
      refine lv_iload hx hb dX10_isSo_109 (lv_at hl 0 rfl) ?_
      have jn_119 : ∀ (xj_19 : Int32) (ls : Array Slot), 0 ≤ xj_19.toInt → xj_19.toInt ≤ 1 → lv_has ls 6 [(5, .int x_10), (4, .int x_10), (3, .int x_9), (0, .ref x), (1, .int i1), (2, .int i2)] → W p l e ({ frames := 0, cells := 0, slots := 0, locals := 0 }) s m ([.ref x, .int i1, .int i2] : List Value).toArray below meth c s.heap [] 0 0 (MQ below (va_Qi (fun (r : Int32) (u : List Nat × hx_h) => (r.toInt = 0 ∨ r.toInt = 1) ∧ hx_T T_tb u.1 u.2 ∧ hx_S T_tb [] L h u.1 u.2) (hx_E T_tb (P_ty dA) (dC, dI) vwCl (hx_A L sz)) (hx_A L sz)) ([.ref x, .int i1, .int i2] : List Value).toArray s 0 0 (hx_A L sz)) (F0 m 119 ls [.int xj_19]) := by
        intro xj_19 ls blxj_19 buxj_19 hl
        exact hx_retz hx hb hr (hx_nar01 (by omega)) hlk hW ⟨(by omega), hT, hM⟩ dX10_isSo_119
      refine hb_icmp_gt (zx := x_9.toInt) (zy := x_10.toInt) (tgt := 118) hx hb rfl rfl dX10_isSo_111 (by decide) (fun c_20 => ?_) (fun c_20 => ?_)
      · skip
        refine lv_iconst (v := 0) hx hb dX10_isSo_118 (by decide) ?_
        exact jn_119 (0 : Int32) ls (by decide) (by decide) hl
      · skip
        refine lv_iconst (v := 1) hx hb dX10_isSo_114 (by decide) ?_
        refine lv_goto (tgt := 119) hx hb dX10_isSo_115 (by decide) ?_
        exact jn_119 (1 : Int32) ls (by decide) (by decide) hl
    · refine lv_tableIn (off := 56) (tgt := 120) hx hb dX10_isSo_64 (by omega) (by omega) (by rw [c_14]; rfl) (by decide) ?_
      refine lv_iload_n hx hb dX10_isSo_120 rfl (lv_at hl 2 rfl) ?_
      refine lv_iload hx hb dX10_isSo_121 (lv_at hl 0 rfl) ?_
      have jn_131 : ∀ (xj_21 : Int32) (ls : Array Slot), 0 ≤ xj_21.toInt → xj_21.toInt ≤ 1 → lv_has ls 6 [(5, .int x_10), (4, .int x_10), (3, .int x_9), (0, .ref x), (1, .int i1), (2, .int i2)] → W p l e ({ frames := 0, cells := 0, slots := 0, locals := 0 }) s m ([.ref x, .int i1, .int i2] : List Value).toArray below meth c s.heap [] 0 0 (MQ below (va_Qi (fun (r : Int32) (u : List Nat × hx_h) => (r.toInt = 0 ∨ r.toInt = 1) ∧ hx_T T_tb u.1 u.2 ∧ hx_S T_tb [] L h u.1 u.2) (hx_E T_tb (P_ty dA) (dC, dI) vwCl (hx_A L sz)) (hx_A L sz)) ([.ref x, .int i1, .int i2] : List Value).toArray s 0 0 (hx_A L sz)) (F0 m 131 ls [.int xj_21]) := by
        intro xj_21 ls blxj_21 buxj_21 hl
        exact hx_retz hx hb hr (hx_nar01 (by omega)) hlk hW ⟨(by omega), hT, hM⟩ dX10_isSo_131
      refine hb_icmp_ne (zx := x_9.toInt) (zy := x_10.toInt) (tgt := 130) hx hb rfl rfl dX10_isSo_123 (by decide) (fun c_22 => ?_) (fun c_22 => ?_)
      · skip
        refine lv_iconst (v := 0) hx hb dX10_isSo_130 (by decide) ?_
        exact jn_131 (0 : Int32) ls (by decide) (by decide) hl
      · skip
        refine lv_iconst (v := 1) hx hb dX10_isSo_126 (by decide) ?_
        refine lv_goto (tgt := 131) hx hb dX10_isSo_127 (by decide) ?_
        exact jn_131 (1 : Int32) ls (by decide) (by decide) hl
    · refine lv_tableIn (off := 68) (tgt := 132) hx hb dX10_isSo_64 (by omega) (by omega) (by rw [c_14]; rfl) (by decide) ?_
      refine lv_iload_n hx hb dX10_isSo_132 rfl (lv_at hl 2 rfl) ?_
      refine lv_iload hx hb dX10_isSo_133 (lv_at hl 0 rfl) ?_
      have jn_143 : ∀ (xj_23 : Int32) (ls : Array Slot), 0 ≤ xj_23.toInt → xj_23.toInt ≤ 1 → lv_has ls 6 [(5, .int x_10), (4, .int x_10), (3, .int x_9), (0, .ref x), (1, .int i1), (2, .int i2)] → W p l e ({ frames := 0, cells := 0, slots := 0, locals := 0 }) s m ([.ref x, .int i1, .int i2] : List Value).toArray below meth c s.heap [] 0 0 (MQ below (va_Qi (fun (r : Int32) (u : List Nat × hx_h) => (r.toInt = 0 ∨ r.toInt = 1) ∧ hx_T T_tb u.1 u.2 ∧ hx_S T_tb [] L h u.1 u.2) (hx_E T_tb (P_ty dA) (dC, dI) vwCl (hx_A L sz)) (hx_A L sz)) ([.ref x, .int i1, .int i2] : List Value).toArray s 0 0 (hx_A L sz)) (F0 m 143 ls [.int xj_23]) := by
        intro xj_23 ls blxj_23 buxj_23 hl
        exact hx_retz hx hb hr (hx_nar01 (by omega)) hlk hW ⟨(by omega), hT, hM⟩ dX10_isSo_143
      refine hb_icmp_lt (zx := x_9.toInt) (zy := x_10.toInt) (tgt := 142) hx hb rfl rfl dX10_isSo_135 (by decide) (fun c_24 => ?_) (fun c_24 => ?_)
      · skip
        refine lv_iconst (v := 0) hx hb dX10_isSo_142 (by decide) ?_
        exact jn_143 (0 : Int32) ls (by decide) (by decide) hl
      · skip
        refine lv_iconst (v := 1) hx hb dX10_isSo_138 (by decide) ?_
        refine lv_goto (tgt := 143) hx hb dX10_isSo_139 (by decide) ?_
        exact jn_143 (1 : Int32) ls (by decide) (by decide) hl
  · skip
    refine lv_aload_n hx hb dX10_isSo_33 rfl (lv_at hl 2 rfl) ?_
    refine hk_getr hx hb hts hC_10 hown hW (gx.S hM) tt_10 53 (by decide) rfl kw_1196 ⟨rfl, rfl, rfl⟩ fq_1 dX10_isSo_34 ?_
    refine lv_bipush (v := 8) hx hb dX10_isSo_37 (by decide) ?_
    refine lv_iload_n hx hb dX10_isSo_39 rfl (lv_at hl 3 rfl) ?_
    refine lv_imul hx hb dX10_isSo_40 ?_
    refine lv_topi (fun x_25 ex_25 => ?_)
    have zx_25 : x_25.toInt = 8 * i1.toInt := by rw [ex_25]; exact i32_mul (by decide) rfl rfl (by omega) (by omega)
    refine lv_iload hx hb dX10_isSo_41 (lv_at hl 0 rfl) ?_
    refine lv_iadd hx hb dX10_isSo_43 ?_
    have rg_26 := i32_r x_25
    have rg_27 := i32_r x_10
    refine lv_topi (fun x_28 ex_28 => ?_)
    have zx_28 : x_28.toInt = x_25.toInt + x_10.toInt := by rw [ex_28]; exact i32_add rfl rfl (by omega) (by omega)
    refine lv_sipush (v := 10000) hx hb dX10_isSo_44 (by decide) ?_
    refine lv_isub hx hb dX10_isSo_47 ?_
    have rg_29 := i32_r x_28
    refine lv_topi (fun x_30 ex_30 => ?_)
    have zx_30 : x_30.toInt = x_28.toInt - 10000 := by rw [ex_30]; exact i32_sub rfl (by decide) (by omega) (by omega)
    refine hx_iald hx hb hW hT gq_1 tt_88 rfl ⟨by omega, by omega⟩ dX10_isSo_48 (fun x_31 ex_31 lx_31 ux_31 => ?_)
    refine lv_goto (tgt := 54) hx hb dX10_isSo_49 (by decide) ?_
    refine lv_istore (lv' := [(5, .int x_31), (4, .int x_10), (3, .int x_9), (0, .ref x), (1, .int i1), (2, .int i2)]) hx hb dX10_isSo_54 hl (by decide) rfl (fun ls hl => ?_)
    refine lv_iload_n hx hb dX10_isSo_56 rfl (lv_at hl 5 rfl) ?_
    refine lv_ldcw (v := 100000) hx hb hown (hts _ kw_1134) dX10_isSo_57 ?_
    refine lv_idiv hx hb dX10_isSo_60 (by decide) ?_
    refine lv_topi (fun x_32 ex_32 => ?_)
    have zx_32 : x_32.toInt = i2.toInt / 100000 := by rw [ex_32, hx_dv (by omega) (by decide)]; rfl
    refine lv_bipush (v := 10) hx hb dX10_isSo_61 (by decide) ?_
    refine lv_irem hx hb dX10_isSo_63 (by decide) ?_
    refine lv_topi (fun x_33 ex_33 => ?_)
    have zx_33 : x_33.toInt = x_32.toInt % 10 := by rw [ex_33, hx_remz (by omega) (by decide)]; rfl
    rcases (show (x_33.toInt < 0 ∨ 3 < x_33.toInt) ∨ x_33.toInt = 0 ∨ x_33.toInt = 1 ∨ x_33.toInt = 2 ∨ x_33.toInt = 3 from by omega) with c_34 | c_34 | c_34 | c_34 | c_34
    · refine lv_tableOut (tgt := 144) hx hb dX10_isSo_64 c_34 (by decide) ?_
      refine lv_iload_n hx hb dX10_isSo_144 rfl (lv_at hl 2 rfl) ?_
      refine lv_iload hx hb dX10_isSo_145 (lv_at hl 0 rfl) ?_
      have jn_155 : ∀ (xj_35 : Int32) (ls : Array Slot), 0 ≤ xj_35.toInt → xj_35.toInt ≤ 1 → lv_has ls 6 [(5, .int x_31), (4, .int x_10), (3, .int x_9), (0, .ref x), (1, .int i1), (2, .int i2)] → W p l e ({ frames := 0, cells := 0, slots := 0, locals := 0 }) s m ([.ref x, .int i1, .int i2] : List Value).toArray below meth c s.heap [] 0 0 (MQ below (va_Qi (fun (r : Int32) (u : List Nat × hx_h) => (r.toInt = 0 ∨ r.toInt = 1) ∧ hx_T T_tb u.1 u.2 ∧ hx_S T_tb [] L h u.1 u.2) (hx_E T_tb (P_ty dA) (dC, dI) vwCl (hx_A L sz)) (hx_A L sz)) ([.ref x, .int i1, .int i2] : List Value).toArray s 0 0 (hx_A L sz)) (F0 m 155 ls [.int xj_35]) := by
        intro xj_35 ls blxj_35 buxj_35 hl
        exact hx_retz hx hb hr (hx_nar01 (by omega)) hlk hW ⟨(by omega), hT, hM⟩ dX10_isSo_155
      refine hb_icmp_le (zx := x_9.toInt) (zy := x_31.toInt) (tgt := 154) hx hb rfl rfl dX10_isSo_147 (by decide) (fun c_36 => ?_) (fun c_36 => ?_)
      · skip
        refine lv_iconst (v := 0) hx hb dX10_isSo_154 (by decide) ?_
        exact jn_155 (0 : Int32) ls (by decide) (by decide) hl
      · skip
        refine lv_iconst (v := 1) hx hb dX10_isSo_150 (by decide) ?_
        refine lv_goto (tgt := 155) hx hb dX10_isSo_151 (by decide) ?_
        exact jn_155 (1 : Int32) ls (by decide) (by decide) hl
    · refine lv_tableIn (off := 32) (tgt := 96) hx hb dX10_isSo_64 (by omega) (by omega) (by rw [c_34]; rfl) (by decide) ?_
      refine lv_iload_n hx hb dX10_isSo_96 rfl (lv_at hl 2 rfl) ?_
      refine lv_iload hx hb dX10_isSo_97 (lv_at hl 0 rfl) ?_
      have jn_107 : ∀ (xj_37 : Int32) (ls : Array Slot), 0 ≤ xj_37.toInt → xj_37.toInt ≤ 1 → lv_has ls 6 [(5, .int x_31), (4, .int x_10), (3, .int x_9), (0, .ref x), (1, .int i1), (2, .int i2)] → W p l e ({ frames := 0, cells := 0, slots := 0, locals := 0 }) s m ([.ref x, .int i1, .int i2] : List Value).toArray below meth c s.heap [] 0 0 (MQ below (va_Qi (fun (r : Int32) (u : List Nat × hx_h) => (r.toInt = 0 ∨ r.toInt = 1) ∧ hx_T T_tb u.1 u.2 ∧ hx_S T_tb [] L h u.1 u.2) (hx_E T_tb (P_ty dA) (dC, dI) vwCl (hx_A L sz)) (hx_A L sz)) ([.ref x, .int i1, .int i2] : List Value).toArray s 0 0 (hx_A L sz)) (F0 m 107 ls [.int xj_37]) := by
        intro xj_37 ls blxj_37 buxj_37 hl
        exact hx_retz hx hb hr (hx_nar01 (by omega)) hlk hW ⟨(by omega), hT, hM⟩ dX10_isSo_107
      refine hb_icmp_ge (zx := x_9.toInt) (zy := x_31.toInt) (tgt := 106) hx hb rfl rfl dX10_isSo_99 (by decide) (fun c_38 => ?_) (fun c_38 => ?_)
      · skip
        refine lv_iconst (v := 0) hx hb dX10_isSo_106 (by decide) ?_
        exact jn_107 (0 : Int32) ls (by decide) (by decide) hl
      · skip
        refine lv_iconst (v := 1) hx hb dX10_isSo_102 (by decide) ?_
        refine lv_goto (tgt := 107) hx hb dX10_isSo_103 (by decide) ?_
        exact jn_107 (1 : Int32) ls (by decide) (by decide) hl
    · refine lv_tableIn (off := 44) (tgt := 108) hx hb dX10_isSo_64 (by omega) (by omega) (by rw [c_34]; rfl) (by decide) ?_
      refine lv_iload_n hx hb dX10_isSo_108 rfl (lv_at hl 2 rfl) ?_
      refine lv_iload hx hb dX10_isSo_109 (lv_at hl 0 rfl) ?_
      have jn_119 : ∀ (xj_39 : Int32) (ls : Array Slot), 0 ≤ xj_39.toInt → xj_39.toInt ≤ 1 → lv_has ls 6 [(5, .int x_31), (4, .int x_10), (3, .int x_9), (0, .ref x), (1, .int i1), (2, .int i2)] → W p l e ({ frames := 0, cells := 0, slots := 0, locals := 0 }) s m ([.ref x, .int i1, .int i2] : List Value).toArray below meth c s.heap [] 0 0 (MQ below (va_Qi (fun (r : Int32) (u : List Nat × hx_h) => (r.toInt = 0 ∨ r.toInt = 1) ∧ hx_T T_tb u.1 u.2 ∧ hx_S T_tb [] L h u.1 u.2) (hx_E T_tb (P_ty dA) (dC, dI) vwCl (hx_A L sz)) (hx_A L sz)) ([.ref x, .int i1, .int i2] : List Value).toArray s 0 0 (hx_A L sz)) (F0 m 119 ls [.int xj_39]) := by
        intro xj_39 ls blxj_39 buxj_39 hl
        exact hx_retz hx hb hr (hx_nar01 (by omega)) hlk hW ⟨(by omega), hT, hM⟩ dX10_isSo_119
      refine hb_icmp_gt (zx := x_9.toInt) (zy := x_31.toInt) (tgt := 118) hx hb rfl rfl dX10_isSo_111 (by decide) (fun c_40 => ?_) (fun c_40 => ?_)
      · skip
        refine lv_iconst (v := 0) hx hb dX10_isSo_118 (by decide) ?_
        exact jn_119 (0 : Int32) ls (by decide) (by decide) hl
      · skip
        refine lv_iconst (v := 1) hx hb dX10_isSo_114 (by decide) ?_
        refine lv_goto (tgt := 119) hx hb dX10_isSo_115 (by decide) ?_
        exact jn_119 (1 : Int32) ls (by decide) (by decide) hl
    · refine lv_tableIn (off := 56) (tgt := 120) hx hb dX10_isSo_64 (by omega) (by omega) (by rw [c_34]; rfl) (by decide) ?_
      refine lv_iload_n hx hb dX10_isSo_120 rfl (lv_at hl 2 rfl) ?_
      refine lv_iload hx hb dX10_isSo_121 (lv_at hl 0 rfl) ?_
      have jn_131 : ∀ (xj_41 : Int32) (ls : Array Slot), 0 ≤ xj_41.toInt → xj_41.toInt ≤ 1 → lv_has ls 6 [(5, .int x_31), (4, .int x_10), (3, .int x_9), (0, .ref x), (1, .int i1), (2, .int i2)] → W p l e ({ frames := 0, cells := 0, slots := 0, locals := 0 }) s m ([.ref x, .int i1, .int i2] : List Value).toArray below meth c s.heap [] 0 0 (MQ below (va_Qi (fun (r : Int32) (u : List Nat × hx_h) => (r.toInt = 0 ∨ r.toInt = 1) ∧ hx_T T_tb u.1 u.2 ∧ hx_S T_tb [] L h u.1 u.2) (hx_E T_tb (P_ty dA) (dC, dI) vwCl (hx_A L sz)) (hx_A L sz)) ([.ref x, .int i1, .int i2] : List Value).toArray s 0 0 (hx_A L sz)) (F0 m 131 ls [.int xj_41]) := by
        intro xj_41 ls blxj_41 buxj_41 hl
        exact hx_retz hx hb hr (hx_nar01 (by omega)) hlk hW ⟨(by omega), hT, hM⟩ dX10_isSo_131
      refine hb_icmp_ne (zx := x_9.toInt) (zy := x_31.toInt) (tgt := 130) hx hb rfl rfl dX10_isSo_123 (by decide) (fun c_42 => ?_) (fun c_42 => ?_)
      · skip
        refine lv_iconst (v := 0) hx hb dX10_isSo_130 (by decide) ?_
        exact jn_131 (0 : Int32) ls (by decide) (by decide) hl
      · skip
        refine lv_iconst (v := 1) hx hb dX10_isSo_126 (by decide) ?_
        refine lv_goto (tgt := 131) hx hb dX10_isSo_127 (by decide) ?_
        exact jn_131 (1 : Int32) ls (by decide) (by decide) hl
    · refine lv_tableIn (off := 68) (tgt := 132) hx hb dX10_isSo_64 (by omega) (by omega) (by rw [c_34]; rfl) (by decide) ?_
      refine lv_iload_n hx hb dX10_isSo_132 rfl (lv_at hl 2 rfl) ?_
      refine lv_iload hx hb dX10_isSo_133 (lv_at hl 0 rfl) ?_
      have jn_143 : ∀ (xj_43 : Int32) (ls : Array Slot), 0 ≤ xj_43.toInt → xj_43.toInt ≤ 1 → lv_has ls 6 [(5, .int x_31), (4, .int x_10), (3, .int x_9), (0, .ref x), (1, .int i1), (2, .int i2)] → W p l e ({ frames := 0, cells := 0, slots := 0, locals := 0 }) s m ([.ref x, .int i1, .int i2] : List Value).toArray below meth c s.heap [] 0 0 (MQ below (va_Qi (fun (r : Int32) (u : List Nat × hx_h) => (r.toInt = 0 ∨ r.toInt = 1) ∧ hx_T T_tb u.1 u.2 ∧ hx_S T_tb [] L h u.1 u.2) (hx_E T_tb (P_ty dA) (dC, dI) vwCl (hx_A L sz)) (hx_A L sz)) ([.ref x, .int i1, .int i2] : List Value).toArray s 0 0 (hx_A L sz)) (F0 m 143 ls [.int xj_43]) := by
        intro xj_43 ls blxj_43 buxj_43 hl
        exact hx_retz hx hb hr (hx_nar01 (by omega)) hlk hW ⟨(by omega), hT, hM⟩ dX10_isSo_143
      refine hb_icmp_lt (zx := x_9.toInt) (zy := x_31.toInt) (tgt := 142) hx hb rfl rfl dX10_isSo_135 (by decide) (fun c_44 => ?_) (fun c_44 => ?_)
      · skip
        refine lv_iconst (v := 0) hx hb dX10_isSo_142 (by decide) ?_
        exact jn_143 (0 : Int32) ls (by decide) (by decide) hl
      · skip
        refine lv_iconst (v := 1) hx hb dX10_isSo_138 (by decide) ?_
        refine lv_goto (tgt := 143) hx hb dX10_isSo_139 (by decide) ?_
        exact jn_143 (1 : Int32) ls (by decide) (by decide) hl

def wLX10_isProved_0 : List Nat := [3, 62, 3, 54, 4, 21, 4, 42, 180, 0, 16, 28, 46, 162, 0, 154, 42, 180, 0, 19, 17, 0, 128, 28, 104, 21, 4, 96, 46, 54, 5, 21, 5, 19, 1, 12, 161, 0, 22, 42, 180, 0, 162, 29, 42, 27, 21, 5, 182, 1, 117, 84, 132, 3, 1, 167, 0, 106, 21, 5, 5, 160, 0, 30]
def wLX10_isProved_1 : List Nat := [42, 180, 0, 162, 29, 4, 100, 42, 180, 0, 162, 29, 4, 100, 51, 154, 0, 7, 4, 167, 0, 4, 3, 84, 167, 0, 73, 132, 3, 255, 42, 180, 0, 162, 29, 4, 100, 21, 5, 4, 160, 0, 31, 42, 180, 0, 162, 29, 4, 100, 51, 153, 0, 16, 42, 180, 0, 162, 29, 51, 153, 0, 7, 4]
def wLX10_isProved_2 : List Nat := [167, 0, 32, 3, 167, 0, 28, 42, 180, 0, 162, 29, 4, 100, 51, 154, 0, 12, 42, 180, 0, 162, 29, 51, 153, 0, 7, 4, 167, 0, 4, 3, 84, 132, 4, 1, 167, 255, 97, 42, 180, 0, 162, 3, 51, 172]
theorem wX10_isProved_0 : (cX10_isProved.data.toList.map UInt8.toNat).drop 0 = wLX10_isProved_0 ++ (wLX10_isProved_1 ++ (wLX10_isProved_2 ++ ([]))) := by decide +kernel
theorem wX10_isProved_1 : (cX10_isProved.data.toList.map UInt8.toNat).drop 64 = wLX10_isProved_1 ++ (wLX10_isProved_2 ++ ([])) := hz_wn wX10_isProved_0 rfl
theorem wX10_isProved_2 : (cX10_isProved.data.toList.map UInt8.toNat).drop 128 = wLX10_isProved_2 ++ ([]) := hz_wn wX10_isProved_1 rfl
theorem dX10_isProved_0 : decode cX10_isProved 0 = .ok (.iconst 0, 1) := dq_3 (hz_wg wX10_isProved_0 (j := 0) (n := 3) rfl)
theorem dX10_isProved_1 : decode cX10_isProved 1 = .ok (.istore_n 3, 1) := dq_62 (hz_wg wX10_isProved_0 (j := 1) (n := 62) rfl)
theorem dX10_isProved_2 : decode cX10_isProved 2 = .ok (.iconst 0, 1) := dq_3 (hz_wg wX10_isProved_0 (j := 2) (n := 3) rfl)
theorem dX10_isProved_3 : decode cX10_isProved 3 = .ok (.istore 4, 2) := dq_54 (hz_wg wX10_isProved_0 (j := 3) (n := 54) rfl) (hz_wg wX10_isProved_0 (j := 4) (n := 4) rfl)
theorem dX10_isProved_5 : decode cX10_isProved 5 = .ok (.iload 4, 2) := dq_21 (hz_wg wX10_isProved_0 (j := 5) (n := 21) rfl) (hz_wg wX10_isProved_0 (j := 6) (n := 4) rfl)
theorem dX10_isProved_7 : decode cX10_isProved 7 = .ok (.aload_n 0, 1) := dq_42 (hz_wg wX10_isProved_0 (j := 7) (n := 42) rfl)
theorem dX10_isProved_8 : decode cX10_isProved 8 = .ok (.getfield 16, 3) := dq_180 (hz_wg wX10_isProved_0 (j := 8) (n := 180) rfl) (hz_wg wX10_isProved_0 (j := 9) (n := 0) rfl) (hz_wg wX10_isProved_0 (j := 10) (n := 16) rfl) rfl
theorem dX10_isProved_11 : decode cX10_isProved 11 = .ok (.iload_n 2, 1) := dq_28 (hz_wg wX10_isProved_0 (j := 11) (n := 28) rfl)
theorem dX10_isProved_12 : decode cX10_isProved 12 = .ok (.iaload, 1) := dq_46 (hz_wg wX10_isProved_0 (j := 12) (n := 46) rfl)
theorem dX10_isProved_13 : decode cX10_isProved 13 = .ok (.if_icmp .ge 154, 3) := dq_162 (hz_wg wX10_isProved_0 (j := 13) (n := 162) rfl) (hz_wg wX10_isProved_0 (j := 14) (n := 0) rfl) (hz_wg wX10_isProved_0 (j := 15) (n := 154) rfl) (by decide)
theorem dX10_isProved_16 : decode cX10_isProved 16 = .ok (.aload_n 0, 1) := dq_42 (hz_wg wX10_isProved_0 (j := 16) (n := 42) rfl)
theorem dX10_isProved_17 : decode cX10_isProved 17 = .ok (.getfield 19, 3) := dq_180 (hz_wg wX10_isProved_0 (j := 17) (n := 180) rfl) (hz_wg wX10_isProved_0 (j := 18) (n := 0) rfl) (hz_wg wX10_isProved_0 (j := 19) (n := 19) rfl) rfl
theorem dX10_isProved_20 : decode cX10_isProved 20 = .ok (.sipush 128, 3) := dq_17 (hz_wg wX10_isProved_0 (j := 20) (n := 17) rfl) (hz_wg wX10_isProved_0 (j := 21) (n := 0) rfl) (hz_wg wX10_isProved_0 (j := 22) (n := 128) rfl) (by decide)
theorem dX10_isProved_23 : decode cX10_isProved 23 = .ok (.iload_n 2, 1) := dq_28 (hz_wg wX10_isProved_0 (j := 23) (n := 28) rfl)
theorem dX10_isProved_24 : decode cX10_isProved 24 = .ok (.imul, 1) := dq_104 (hz_wg wX10_isProved_0 (j := 24) (n := 104) rfl)
theorem dX10_isProved_25 : decode cX10_isProved 25 = .ok (.iload 4, 2) := dq_21 (hz_wg wX10_isProved_0 (j := 25) (n := 21) rfl) (hz_wg wX10_isProved_0 (j := 26) (n := 4) rfl)
theorem dX10_isProved_27 : decode cX10_isProved 27 = .ok (.iadd, 1) := dq_96 (hz_wg wX10_isProved_0 (j := 27) (n := 96) rfl)
theorem dX10_isProved_28 : decode cX10_isProved 28 = .ok (.iaload, 1) := dq_46 (hz_wg wX10_isProved_0 (j := 28) (n := 46) rfl)
theorem dX10_isProved_29 : decode cX10_isProved 29 = .ok (.istore 5, 2) := dq_54 (hz_wg wX10_isProved_0 (j := 29) (n := 54) rfl) (hz_wg wX10_isProved_0 (j := 30) (n := 5) rfl)
theorem dX10_isProved_31 : decode cX10_isProved 31 = .ok (.iload 5, 2) := dq_21 (hz_wg wX10_isProved_0 (j := 31) (n := 21) rfl) (hz_wg wX10_isProved_0 (j := 32) (n := 5) rfl)
theorem dX10_isProved_33 : decode cX10_isProved 33 = .ok (.ldc_w 268, 3) := dq_19 (hz_wg wX10_isProved_0 (j := 33) (n := 19) rfl) (hz_wg wX10_isProved_0 (j := 34) (n := 1) rfl) (hz_wg wX10_isProved_0 (j := 35) (n := 12) rfl) rfl
theorem dX10_isProved_36 : decode cX10_isProved 36 = .ok (.if_icmp .lt 22, 3) := dq_161 (hz_wg wX10_isProved_0 (j := 36) (n := 161) rfl) (hz_wg wX10_isProved_0 (j := 37) (n := 0) rfl) (hz_wg wX10_isProved_0 (j := 38) (n := 22) rfl) (by decide)
theorem dX10_isProved_39 : decode cX10_isProved 39 = .ok (.aload_n 0, 1) := dq_42 (hz_wg wX10_isProved_0 (j := 39) (n := 42) rfl)
theorem dX10_isProved_40 : decode cX10_isProved 40 = .ok (.getfield 162, 3) := dq_180 (hz_wg wX10_isProved_0 (j := 40) (n := 180) rfl) (hz_wg wX10_isProved_0 (j := 41) (n := 0) rfl) (hz_wg wX10_isProved_0 (j := 42) (n := 162) rfl) rfl
theorem dX10_isProved_43 : decode cX10_isProved 43 = .ok (.iload_n 3, 1) := dq_29 (hz_wg wX10_isProved_0 (j := 43) (n := 29) rfl)
theorem dX10_isProved_44 : decode cX10_isProved 44 = .ok (.aload_n 0, 1) := dq_42 (hz_wg wX10_isProved_0 (j := 44) (n := 42) rfl)
theorem dX10_isProved_45 : decode cX10_isProved 45 = .ok (.iload_n 1, 1) := dq_27 (hz_wg wX10_isProved_0 (j := 45) (n := 27) rfl)
theorem dX10_isProved_46 : decode cX10_isProved 46 = .ok (.iload 5, 2) := dq_21 (hz_wg wX10_isProved_0 (j := 46) (n := 21) rfl) (hz_wg wX10_isProved_0 (j := 47) (n := 5) rfl)
theorem dX10_isProved_48 : decode cX10_isProved 48 = .ok (.invokevirtual 373, 3) := dq_182 (hz_wg wX10_isProved_0 (j := 48) (n := 182) rfl) (hz_wg wX10_isProved_0 (j := 49) (n := 1) rfl) (hz_wg wX10_isProved_0 (j := 50) (n := 117) rfl) rfl
theorem dX10_isProved_51 : decode cX10_isProved 51 = .ok (.bastore, 1) := dq_84 (hz_wg wX10_isProved_0 (j := 51) (n := 84) rfl)
theorem dX10_isProved_52 : decode cX10_isProved 52 = .ok (.iinc 3 1, 3) := dq_132 (hz_wg wX10_isProved_0 (j := 52) (n := 132) rfl) (hz_wg wX10_isProved_0 (j := 53) (n := 3) rfl) (hz_wg wX10_isProved_0 (j := 54) (n := 1) rfl) (by decide)
theorem dX10_isProved_55 : decode cX10_isProved 55 = .ok (.goto 106, 3) := dq_167 (hz_wg wX10_isProved_0 (j := 55) (n := 167) rfl) (hz_wg wX10_isProved_0 (j := 56) (n := 0) rfl) (hz_wg wX10_isProved_0 (j := 57) (n := 106) rfl) (by decide)
theorem dX10_isProved_58 : decode cX10_isProved 58 = .ok (.iload 5, 2) := dq_21 (hz_wg wX10_isProved_0 (j := 58) (n := 21) rfl) (hz_wg wX10_isProved_0 (j := 59) (n := 5) rfl)
theorem dX10_isProved_60 : decode cX10_isProved 60 = .ok (.iconst 2, 1) := dq_5 (hz_wg wX10_isProved_0 (j := 60) (n := 5) rfl)
theorem dX10_isProved_61 : decode cX10_isProved 61 = .ok (.if_icmp .ne 30, 3) := dq_160 (hz_wg wX10_isProved_0 (j := 61) (n := 160) rfl) (hz_wg wX10_isProved_0 (j := 62) (n := 0) rfl) (hz_wg wX10_isProved_0 (j := 63) (n := 30) rfl) (by decide)
theorem dX10_isProved_64 : decode cX10_isProved 64 = .ok (.aload_n 0, 1) := dq_42 (hz_wg wX10_isProved_1 (j := 0) (n := 42) rfl)
theorem dX10_isProved_65 : decode cX10_isProved 65 = .ok (.getfield 162, 3) := dq_180 (hz_wg wX10_isProved_1 (j := 1) (n := 180) rfl) (hz_wg wX10_isProved_1 (j := 2) (n := 0) rfl) (hz_wg wX10_isProved_1 (j := 3) (n := 162) rfl) rfl
theorem dX10_isProved_68 : decode cX10_isProved 68 = .ok (.iload_n 3, 1) := dq_29 (hz_wg wX10_isProved_1 (j := 4) (n := 29) rfl)
theorem dX10_isProved_69 : decode cX10_isProved 69 = .ok (.iconst 1, 1) := dq_4 (hz_wg wX10_isProved_1 (j := 5) (n := 4) rfl)
theorem dX10_isProved_70 : decode cX10_isProved 70 = .ok (.isub, 1) := dq_100 (hz_wg wX10_isProved_1 (j := 6) (n := 100) rfl)
theorem dX10_isProved_71 : decode cX10_isProved 71 = .ok (.aload_n 0, 1) := dq_42 (hz_wg wX10_isProved_1 (j := 7) (n := 42) rfl)
theorem dX10_isProved_72 : decode cX10_isProved 72 = .ok (.getfield 162, 3) := dq_180 (hz_wg wX10_isProved_1 (j := 8) (n := 180) rfl) (hz_wg wX10_isProved_1 (j := 9) (n := 0) rfl) (hz_wg wX10_isProved_1 (j := 10) (n := 162) rfl) rfl
theorem dX10_isProved_75 : decode cX10_isProved 75 = .ok (.iload_n 3, 1) := dq_29 (hz_wg wX10_isProved_1 (j := 11) (n := 29) rfl)
theorem dX10_isProved_76 : decode cX10_isProved 76 = .ok (.iconst 1, 1) := dq_4 (hz_wg wX10_isProved_1 (j := 12) (n := 4) rfl)
theorem dX10_isProved_77 : decode cX10_isProved 77 = .ok (.isub, 1) := dq_100 (hz_wg wX10_isProved_1 (j := 13) (n := 100) rfl)
theorem dX10_isProved_78 : decode cX10_isProved 78 = .ok (.baload, 1) := dq_51 (hz_wg wX10_isProved_1 (j := 14) (n := 51) rfl)
theorem dX10_isProved_79 : decode cX10_isProved 79 = .ok (.ifCond .ne 7, 3) := dq_154 (hz_wg wX10_isProved_1 (j := 15) (n := 154) rfl) (hz_wg wX10_isProved_1 (j := 16) (n := 0) rfl) (hz_wg wX10_isProved_1 (j := 17) (n := 7) rfl) (by decide)
theorem dX10_isProved_82 : decode cX10_isProved 82 = .ok (.iconst 1, 1) := dq_4 (hz_wg wX10_isProved_1 (j := 18) (n := 4) rfl)
theorem dX10_isProved_83 : decode cX10_isProved 83 = .ok (.goto 4, 3) := dq_167 (hz_wg wX10_isProved_1 (j := 19) (n := 167) rfl) (hz_wg wX10_isProved_1 (j := 20) (n := 0) rfl) (hz_wg wX10_isProved_1 (j := 21) (n := 4) rfl) (by decide)
theorem dX10_isProved_86 : decode cX10_isProved 86 = .ok (.iconst 0, 1) := dq_3 (hz_wg wX10_isProved_1 (j := 22) (n := 3) rfl)
theorem dX10_isProved_87 : decode cX10_isProved 87 = .ok (.bastore, 1) := dq_84 (hz_wg wX10_isProved_1 (j := 23) (n := 84) rfl)
theorem dX10_isProved_88 : decode cX10_isProved 88 = .ok (.goto 73, 3) := dq_167 (hz_wg wX10_isProved_1 (j := 24) (n := 167) rfl) (hz_wg wX10_isProved_1 (j := 25) (n := 0) rfl) (hz_wg wX10_isProved_1 (j := 26) (n := 73) rfl) (by decide)
theorem dX10_isProved_91 : decode cX10_isProved 91 = .ok (.iinc 3 (-1), 3) := dq_132 (hz_wg wX10_isProved_1 (j := 27) (n := 132) rfl) (hz_wg wX10_isProved_1 (j := 28) (n := 3) rfl) (hz_wg wX10_isProved_1 (j := 29) (n := 255) rfl) (by decide)
theorem dX10_isProved_94 : decode cX10_isProved 94 = .ok (.aload_n 0, 1) := dq_42 (hz_wg wX10_isProved_1 (j := 30) (n := 42) rfl)
theorem dX10_isProved_95 : decode cX10_isProved 95 = .ok (.getfield 162, 3) := dq_180 (hz_wg wX10_isProved_1 (j := 31) (n := 180) rfl) (hz_wg wX10_isProved_1 (j := 32) (n := 0) rfl) (hz_wg wX10_isProved_1 (j := 33) (n := 162) rfl) rfl
theorem dX10_isProved_98 : decode cX10_isProved 98 = .ok (.iload_n 3, 1) := dq_29 (hz_wg wX10_isProved_1 (j := 34) (n := 29) rfl)
theorem dX10_isProved_99 : decode cX10_isProved 99 = .ok (.iconst 1, 1) := dq_4 (hz_wg wX10_isProved_1 (j := 35) (n := 4) rfl)
theorem dX10_isProved_100 : decode cX10_isProved 100 = .ok (.isub, 1) := dq_100 (hz_wg wX10_isProved_1 (j := 36) (n := 100) rfl)
theorem dX10_isProved_101 : decode cX10_isProved 101 = .ok (.iload 5, 2) := dq_21 (hz_wg wX10_isProved_1 (j := 37) (n := 21) rfl) (hz_wg wX10_isProved_1 (j := 38) (n := 5) rfl)
theorem dX10_isProved_103 : decode cX10_isProved 103 = .ok (.iconst 1, 1) := dq_4 (hz_wg wX10_isProved_1 (j := 39) (n := 4) rfl)
theorem dX10_isProved_104 : decode cX10_isProved 104 = .ok (.if_icmp .ne 31, 3) := dq_160 (hz_wg wX10_isProved_1 (j := 40) (n := 160) rfl) (hz_wg wX10_isProved_1 (j := 41) (n := 0) rfl) (hz_wg wX10_isProved_1 (j := 42) (n := 31) rfl) (by decide)
theorem dX10_isProved_107 : decode cX10_isProved 107 = .ok (.aload_n 0, 1) := dq_42 (hz_wg wX10_isProved_1 (j := 43) (n := 42) rfl)
theorem dX10_isProved_108 : decode cX10_isProved 108 = .ok (.getfield 162, 3) := dq_180 (hz_wg wX10_isProved_1 (j := 44) (n := 180) rfl) (hz_wg wX10_isProved_1 (j := 45) (n := 0) rfl) (hz_wg wX10_isProved_1 (j := 46) (n := 162) rfl) rfl
theorem dX10_isProved_111 : decode cX10_isProved 111 = .ok (.iload_n 3, 1) := dq_29 (hz_wg wX10_isProved_1 (j := 47) (n := 29) rfl)
theorem dX10_isProved_112 : decode cX10_isProved 112 = .ok (.iconst 1, 1) := dq_4 (hz_wg wX10_isProved_1 (j := 48) (n := 4) rfl)
theorem dX10_isProved_113 : decode cX10_isProved 113 = .ok (.isub, 1) := dq_100 (hz_wg wX10_isProved_1 (j := 49) (n := 100) rfl)
theorem dX10_isProved_114 : decode cX10_isProved 114 = .ok (.baload, 1) := dq_51 (hz_wg wX10_isProved_1 (j := 50) (n := 51) rfl)
theorem dX10_isProved_115 : decode cX10_isProved 115 = .ok (.ifCond .eq 16, 3) := dq_153 (hz_wg wX10_isProved_1 (j := 51) (n := 153) rfl) (hz_wg wX10_isProved_1 (j := 52) (n := 0) rfl) (hz_wg wX10_isProved_1 (j := 53) (n := 16) rfl) (by decide)
theorem dX10_isProved_118 : decode cX10_isProved 118 = .ok (.aload_n 0, 1) := dq_42 (hz_wg wX10_isProved_1 (j := 54) (n := 42) rfl)
theorem dX10_isProved_119 : decode cX10_isProved 119 = .ok (.getfield 162, 3) := dq_180 (hz_wg wX10_isProved_1 (j := 55) (n := 180) rfl) (hz_wg wX10_isProved_1 (j := 56) (n := 0) rfl) (hz_wg wX10_isProved_1 (j := 57) (n := 162) rfl) rfl
theorem dX10_isProved_122 : decode cX10_isProved 122 = .ok (.iload_n 3, 1) := dq_29 (hz_wg wX10_isProved_1 (j := 58) (n := 29) rfl)
theorem dX10_isProved_123 : decode cX10_isProved 123 = .ok (.baload, 1) := dq_51 (hz_wg wX10_isProved_1 (j := 59) (n := 51) rfl)
theorem dX10_isProved_124 : decode cX10_isProved 124 = .ok (.ifCond .eq 7, 3) := dq_153 (hz_wg wX10_isProved_1 (j := 60) (n := 153) rfl) (hz_wg wX10_isProved_1 (j := 61) (n := 0) rfl) (hz_wg wX10_isProved_1 (j := 62) (n := 7) rfl) (by decide)
theorem dX10_isProved_127 : decode cX10_isProved 127 = .ok (.iconst 1, 1) := dq_4 (hz_wg wX10_isProved_1 (j := 63) (n := 4) rfl)
theorem dX10_isProved_128 : decode cX10_isProved 128 = .ok (.goto 32, 3) := dq_167 (hz_wg wX10_isProved_2 (j := 0) (n := 167) rfl) (hz_wg wX10_isProved_2 (j := 1) (n := 0) rfl) (hz_wg wX10_isProved_2 (j := 2) (n := 32) rfl) (by decide)
theorem dX10_isProved_131 : decode cX10_isProved 131 = .ok (.iconst 0, 1) := dq_3 (hz_wg wX10_isProved_2 (j := 3) (n := 3) rfl)
theorem dX10_isProved_132 : decode cX10_isProved 132 = .ok (.goto 28, 3) := dq_167 (hz_wg wX10_isProved_2 (j := 4) (n := 167) rfl) (hz_wg wX10_isProved_2 (j := 5) (n := 0) rfl) (hz_wg wX10_isProved_2 (j := 6) (n := 28) rfl) (by decide)
theorem dX10_isProved_135 : decode cX10_isProved 135 = .ok (.aload_n 0, 1) := dq_42 (hz_wg wX10_isProved_2 (j := 7) (n := 42) rfl)
theorem dX10_isProved_136 : decode cX10_isProved 136 = .ok (.getfield 162, 3) := dq_180 (hz_wg wX10_isProved_2 (j := 8) (n := 180) rfl) (hz_wg wX10_isProved_2 (j := 9) (n := 0) rfl) (hz_wg wX10_isProved_2 (j := 10) (n := 162) rfl) rfl
theorem dX10_isProved_139 : decode cX10_isProved 139 = .ok (.iload_n 3, 1) := dq_29 (hz_wg wX10_isProved_2 (j := 11) (n := 29) rfl)
theorem dX10_isProved_140 : decode cX10_isProved 140 = .ok (.iconst 1, 1) := dq_4 (hz_wg wX10_isProved_2 (j := 12) (n := 4) rfl)
theorem dX10_isProved_141 : decode cX10_isProved 141 = .ok (.isub, 1) := dq_100 (hz_wg wX10_isProved_2 (j := 13) (n := 100) rfl)
theorem dX10_isProved_142 : decode cX10_isProved 142 = .ok (.baload, 1) := dq_51 (hz_wg wX10_isProved_2 (j := 14) (n := 51) rfl)
theorem dX10_isProved_143 : decode cX10_isProved 143 = .ok (.ifCond .ne 12, 3) := dq_154 (hz_wg wX10_isProved_2 (j := 15) (n := 154) rfl) (hz_wg wX10_isProved_2 (j := 16) (n := 0) rfl) (hz_wg wX10_isProved_2 (j := 17) (n := 12) rfl) (by decide)
theorem dX10_isProved_146 : decode cX10_isProved 146 = .ok (.aload_n 0, 1) := dq_42 (hz_wg wX10_isProved_2 (j := 18) (n := 42) rfl)
theorem dX10_isProved_147 : decode cX10_isProved 147 = .ok (.getfield 162, 3) := dq_180 (hz_wg wX10_isProved_2 (j := 19) (n := 180) rfl) (hz_wg wX10_isProved_2 (j := 20) (n := 0) rfl) (hz_wg wX10_isProved_2 (j := 21) (n := 162) rfl) rfl
theorem dX10_isProved_150 : decode cX10_isProved 150 = .ok (.iload_n 3, 1) := dq_29 (hz_wg wX10_isProved_2 (j := 22) (n := 29) rfl)
theorem dX10_isProved_151 : decode cX10_isProved 151 = .ok (.baload, 1) := dq_51 (hz_wg wX10_isProved_2 (j := 23) (n := 51) rfl)
theorem dX10_isProved_152 : decode cX10_isProved 152 = .ok (.ifCond .eq 7, 3) := dq_153 (hz_wg wX10_isProved_2 (j := 24) (n := 153) rfl) (hz_wg wX10_isProved_2 (j := 25) (n := 0) rfl) (hz_wg wX10_isProved_2 (j := 26) (n := 7) rfl) (by decide)
theorem dX10_isProved_155 : decode cX10_isProved 155 = .ok (.iconst 1, 1) := dq_4 (hz_wg wX10_isProved_2 (j := 27) (n := 4) rfl)
theorem dX10_isProved_156 : decode cX10_isProved 156 = .ok (.goto 4, 3) := dq_167 (hz_wg wX10_isProved_2 (j := 28) (n := 167) rfl) (hz_wg wX10_isProved_2 (j := 29) (n := 0) rfl) (hz_wg wX10_isProved_2 (j := 30) (n := 4) rfl) (by decide)
theorem dX10_isProved_159 : decode cX10_isProved 159 = .ok (.iconst 0, 1) := dq_3 (hz_wg wX10_isProved_2 (j := 31) (n := 3) rfl)
theorem dX10_isProved_160 : decode cX10_isProved 160 = .ok (.bastore, 1) := dq_84 (hz_wg wX10_isProved_2 (j := 32) (n := 84) rfl)
theorem dX10_isProved_161 : decode cX10_isProved 161 = .ok (.iinc 4 1, 3) := dq_132 (hz_wg wX10_isProved_2 (j := 33) (n := 132) rfl) (hz_wg wX10_isProved_2 (j := 34) (n := 4) rfl) (hz_wg wX10_isProved_2 (j := 35) (n := 1) rfl) (by decide)
theorem dX10_isProved_164 : decode cX10_isProved 164 = .ok (.goto (-159), 3) := dq_167 (hz_wg wX10_isProved_2 (j := 36) (n := 167) rfl) (hz_wg wX10_isProved_2 (j := 37) (n := 255) rfl) (hz_wg wX10_isProved_2 (j := 38) (n := 97) rfl) (by decide)
theorem dX10_isProved_167 : decode cX10_isProved 167 = .ok (.aload_n 0, 1) := dq_42 (hz_wg wX10_isProved_2 (j := 39) (n := 42) rfl)
theorem dX10_isProved_168 : decode cX10_isProved 168 = .ok (.getfield 162, 3) := dq_180 (hz_wg wX10_isProved_2 (j := 40) (n := 180) rfl) (hz_wg wX10_isProved_2 (j := 41) (n := 0) rfl) (hz_wg wX10_isProved_2 (j := 42) (n := 162) rfl) rfl
theorem dX10_isProved_171 : decode cX10_isProved 171 = .ok (.iconst 0, 1) := dq_3 (hz_wg wX10_isProved_2 (j := 43) (n := 3) rfl)
theorem dX10_isProved_172 : decode cX10_isProved 172 = .ok (.baload, 1) := dq_51 (hz_wg wX10_isProved_2 (j := 44) (n := 51) rfl)
theorem dX10_isProved_173 : decode cX10_isProved 173 = .ok (.ireturn, 1) := dq_172 (hz_wg wX10_isProved_2 (j := 45) (n := 172) rfl)
set_option maxHeartbeats 4000000 in
set_option maxRecDepth 100000 in
theorem t_X10_isProved (l : Launch) (dC : Nat → ClassId) (dI : Nat → Nat → Nat) (dA : Nat → ClassId) (L : List Nat) (h : hx_h) (sz : Nat) (x : Nat) (i1 : Int32) (i2 : Int32) (hT : hx_T T_tb L h) (gx : hx_g L h x 10) (qn : Nat) (gqn : hx_g L h qn 51) (f_x_4 : h.2.2 x 4 = some qn) (qp : Nat) (gqp : hx_g L h qp 52) (f_x_5 : h.2.2 x 5 = some qp) (psf : Nat → Int32) (af_qn : h.2.1 qn = psf) (prf : Nat → Int32) (af_qp : h.2.1 qp = prf) (hi1 : 0 ≤ i1.toInt ∧ i1.toInt ≤ 99) (hi2 : 0 ≤ i2.toInt ∧ i2.toInt ≤ 8) (hp : hx_rp (fun k => prf (128 * i2.toInt.toNat + k)) (psf i2.toInt.toNat).toInt.toNat = some 1) : Met l yX10_isProved (Cond.code yX10_isProved cX10_isProved 6 (some .boolean) :: hx_all) ({ frames := 1, cells := 0, slots := 0, locals := 25 }) (va_Pc [.ref x, .int i1, .int i2] (hx_B T_tb (P_ty dA) (dC, dI) vwCl L h sz)) (va_Qi (fun (r : Int32) (u : List Nat × hx_h) => (r.toInt = 0 ∨ r.toInt = 1) ∧ hx_T T_tb u.1 u.2 ∧ hx_S T_tb [(99, 0)] L h u.1 u.2) (hx_E T_tb (P_ty dA) (dC, dI) vwCl (hx_A L sz)) (hx_A L sz)) 0 0 (hx_A L sz) := by
  refine hx_met (lv := [(0, .ref x), (1, .int i1), (2, .int i2)]) (by decide +kernel) rfl (Nat.le_of_ble_eq_true rfl) rfl ?_
  intro p e s m below meth c hx hb hml hr hlk hts0 hown hin hsz hW ls hl
  have hts : ∀ w ∈ hx_all, w.before _ s = true := fun w hw => hts0 w (List.mem_cons_of_mem _ hw)
  have hown : s.vm.findClass "SmallCourtModel" = some m.cls := hown
  have hM : hx_S T_tb [(99, 0)] L h L h := hx_S.rf
  refine lv_iconst (v := 0) hx hb dX10_isProved_0 (by decide) ?_
  refine lv_istore_n (lv' := [(3, .int (0 : Int32)), (0, .ref x), (1, .int i1), (2, .int i2)]) hx hb dX10_isProved_1 rfl hl (by decide) rfl (fun ls hl => ?_)
  refine lv_iconst (v := 0) hx hb dX10_isProved_2 (by decide) ?_
  refine lv_istore (lv' := [(4, .int (0 : Int32)), (3, .int (0 : Int32)), (0, .ref x), (1, .int i1), (2, .int i2)]) hx hb dX10_isProved_3 hl (by decide) rfl (fun ls hl => ?_)
  have loop5 : ∀ (n5 : Nat) (iv5_3 iv5_4 : Int32) (H : Heap) (locs : List Loc) (hL1 : List Nat) (hl1 : hx_h), 0 ≤ iv5_3.toInt → iv5_3.toInt ≤ 128 → 0 ≤ iv5_4.toInt → iv5_4.toInt ≤ 128 → (hx_rp (fun k => prf (128 * i2.toInt.toNat + k)) ((iv5_4.toInt : Int)).toNat = some ((iv5_3.toInt : Int)).toNat) → ∀ (ls : Array Slot), 128 - iv5_4.toInt < (n5 : Int) → hx_W T_tb (P_ty dA) (dC, dI) vwCl (hx_A L sz) s.heap hL1 hl1 s H locs → hx_T T_tb hL1 hl1 → hx_S T_tb [(99, 0)] L h hL1 hl1 → lv_has ls 6 [(4, .int iv5_4), (3, .int iv5_3), (0, .ref x), (1, .int i1), (2, .int i2)] → W p l e ({ frames := 1, cells := 0, slots := 0, locals := 25 }) s m ([.ref x, .int i1, .int i2] : List Value).toArray below meth c H locs 0 0 (MQ below (va_Qi (fun (r : Int32) (u : List Nat × hx_h) => (r.toInt = 0 ∨ r.toInt = 1) ∧ hx_T T_tb u.1 u.2 ∧ hx_S T_tb [(99, 0)] L h u.1 u.2) (hx_E T_tb (P_ty dA) (dC, dI) vwCl (hx_A L sz)) (hx_A L sz)) ([.ref x, .int i1, .int i2] : List Value).toArray s 0 0 (hx_A L sz)) (F0 m 5 ls []) := by
    intro n5
    induction n5 with
    | zero => intro iv5_3 iv5_4 H locs hL1 hl1 bliv5_3 buiv5_3 bliv5_4 buiv5_4 vi5_0 ls hn5; exfalso; omega
    | succ n5 ih5 =>
      intro iv5_3 iv5_4 H locs hL1 hl1 bliv5_3 buiv5_3 bliv5_4 buiv5_4 vi5_0 ls hn5 hW hT hM   hl
      refine lv_iload hx hb dX10_isProved_5 (lv_at hl 0 rfl) ?_
      refine lv_aload_n hx hb dX10_isProved_7 rfl (lv_at hl 2 rfl) ?_
      refine hk_getr hx hb hts hC_10 hown hW (gx.S hM) tt_10 4 (by decide) rfl kw_1147 ⟨rfl, rfl, rfl⟩ ((hM.o gx trivial rfl).2.trans f_x_4) dX10_isProved_8 ?_
      refine lv_iload_n hx hb dX10_isProved_11 rfl (lv_at hl 4 rfl) ?_
      refine hx_iald hx hb hW hT (gqn.S hM) tt_51 rfl ⟨by omega, by omega⟩ dX10_isProved_12 (fun x_1 ex_1 lx_1 ux_1 => ?_)
      have ax_1 : x_1 = psf i2.toNatClampNeg := ex_1.trans (congrFun (hx_afS hM gqn rfl af_qn) _)
      refine hb_icmp_ge (zx := iv5_4.toInt) (zy := x_1.toInt) (tgt := 167) hx hb rfl rfl dX10_isProved_13 (by decide) (fun c_2 => ?_) (fun c_2 => ?_)
      · skip
        refine lv_aload_n hx hb dX10_isProved_167 rfl (lv_at hl 2 rfl) ?_
        refine hx_getn hx hb hts hC_10 hown hW hT (gx.S hM) tt_10 66 (by decide) rfl kw_1209 ⟨rfl, rfl, rfl⟩ dX10_isProved_168 (fun q_3 fq_3 gq_3 => ?_)
        refine lv_iconst (v := 0) hx hb dX10_isProved_171 (by decide) ?_
        refine hx_zald hx hb hW hT gq_3 tt_99 rfl (by decide) dX10_isProved_172 (fun x_4 ex_4 lx_4 ux_4 => ?_)
        exact hx_retz hx hb hr (hx_nar01 (by omega)) hlk hW ⟨(by omega), hT, hM⟩ dX10_isProved_173
      · skip
        refine lv_aload_n hx hb dX10_isProved_16 rfl (lv_at hl 2 rfl) ?_
        refine hk_getr hx hb hts hC_10 hown hW (gx.S hM) tt_10 5 (by decide) rfl kw_1148 ⟨rfl, rfl, rfl⟩ ((hM.o gx trivial rfl).2.trans f_x_5) dX10_isProved_17 ?_
        refine lv_sipush (v := 128) hx hb dX10_isProved_20 (by decide) ?_
        refine lv_iload_n hx hb dX10_isProved_23 rfl (lv_at hl 4 rfl) ?_
        refine lv_imul hx hb dX10_isProved_24 ?_
        refine lv_topi (fun x_5 ex_5 => ?_)
        have zx_5 : x_5.toInt = 128 * i2.toInt := by rw [ex_5]; exact i32_mul (by decide) rfl rfl (by omega) (by omega)
        refine lv_iload hx hb dX10_isProved_25 (lv_at hl 0 rfl) ?_
        refine lv_iadd hx hb dX10_isProved_27 ?_
        have rg_6 := i32_r x_5
        have rg_7 := i32_r iv5_4
        refine lv_topi (fun x_8 ex_8 => ?_)
        have zx_8 : x_8.toInt = x_5.toInt + iv5_4.toInt := by rw [ex_8]; exact i32_add rfl rfl (by omega) (by omega)
        refine hx_iald hx hb hW hT (gqp.S hM) tt_52 rfl ⟨by omega, by omega⟩ dX10_isProved_28 (fun x_9 ex_9 lx_9 ux_9 => ?_)
        have ax_9 : x_9 = prf x_8.toNatClampNeg := ex_9.trans (congrFun (hx_afS hM gqp rfl af_qp) _)
        refine lv_istore (lv' := [(5, .int x_9), (4, .int iv5_4), (3, .int iv5_3), (0, .ref x), (1, .int i1), (2, .int i2)]) hx hb dX10_isProved_29 hl (by decide) rfl (fun ls hl => ?_)
        obtain ⟨dd, hd0, hd1, hd2, hd3⟩ := hx_rp_step (s := x_9) hp (by omega) (n := (psf i2.toNatClampNeg).toInt) (k := iv5_4.toInt) (by rw [← ax_1]; omega) vi5_0 (by omega) (ax_9.trans (congrArg prf (by unfold Int32.toNatClampNeg; omega)))
        refine lv_iload hx hb dX10_isProved_31 (lv_at hl 0 rfl) ?_
        refine lv_ldcw (v := 1000000) hx hb hown (hts _ kw_1133) dX10_isProved_33 ?_
        refine hb_icmp_lt (zx := x_9.toInt) (zy := 1000000) (tgt := 58) hx hb rfl (by decide) dX10_isProved_36 (by decide) (fun c_10 => ?_) (fun c_10 => ?_)
        · skip
          refine lv_iload hx hb dX10_isProved_58 (lv_at hl 0 rfl) ?_
          refine lv_iconst (v := 2) hx hb dX10_isProved_60 (by decide) ?_
          refine hb_icmp_ne (zx := x_9.toInt) (zy := 2) (tgt := 91) hx hb rfl (by decide) dX10_isProved_61 (by decide) (fun c_11 => ?_) (fun c_11 => ?_)
          · skip
            obtain ⟨x_12, ex_12⟩ : ∃ y : Int32, y = iv5_3 + Int32.ofInt (-1) := ⟨_, rfl⟩
            have rg_13 := i32_r iv5_3
            have zx_12 : x_12.toInt = iv5_3.toInt + (-1) := by rw [ex_12]; exact i32_add rfl (by decide) (by omega) (by omega)
            refine lv_iinc (v := x_12) (lv' := [(3, .int x_12), (5, .int x_9), (4, .int iv5_4), (0, .ref x), (1, .int i1), (2, .int i2)]) hx hb dX10_isProved_91 hl (k := 2) rfl ex_12.symm (by decide) rfl (fun ls hl => ?_)
            refine lv_aload_n hx hb dX10_isProved_94 rfl (lv_at hl 3 rfl) ?_
            refine hx_getn hx hb hts hC_10 hown hW hT (gx.S hM) tt_10 66 (by decide) rfl kw_1209 ⟨rfl, rfl, rfl⟩ dX10_isProved_95 (fun q_14 fq_14 gq_14 => ?_)
            refine lv_iload_n hx hb dX10_isProved_98 rfl (lv_at hl 0 rfl) ?_
            refine lv_iconst (v := 1) hx hb dX10_isProved_99 (by decide) ?_
            refine lv_isub hx hb dX10_isProved_100 ?_
            have rg_15 := i32_r x_12
            refine lv_topi (fun x_16 ex_16 => ?_)
            have zx_16 : x_16.toInt = x_12.toInt - 1 := by rw [ex_16]; exact i32_sub rfl (by decide) (by omega) (by omega)
            refine lv_iload hx hb dX10_isProved_101 (lv_at hl 1 rfl) ?_
            refine lv_iconst (v := 1) hx hb dX10_isProved_103 (by decide) ?_
            refine hb_icmp_ne (zx := x_9.toInt) (zy := 1) (tgt := 135) hx hb rfl (by decide) dX10_isProved_104 (by decide) (fun c_17 => ?_) (fun c_17 => ?_)
            · skip
              refine lv_aload_n hx hb dX10_isProved_135 rfl (lv_at hl 3 rfl) ?_
              refine hk_getr hx hb hts hC_10 hown hW (gx.S hM) tt_10 66 (by decide) rfl kw_1209 ⟨rfl, rfl, rfl⟩ fq_14 dX10_isProved_136 ?_
              refine lv_iload_n hx hb dX10_isProved_139 rfl (lv_at hl 0 rfl) ?_
              refine lv_iconst (v := 1) hx hb dX10_isProved_140 (by decide) ?_
              refine lv_isub hx hb dX10_isProved_141 ?_
              refine lv_topi (fun x_18 ex_18 => ?_)
              have zx_18 : x_18.toInt = x_12.toInt - 1 := by rw [ex_18]; exact i32_sub rfl (by decide) (by omega) (by omega)
              refine hx_zald hx hb hW hT gq_14 tt_99 rfl ⟨by omega, by omega⟩ dX10_isProved_142 (fun x_19 ex_19 lx_19 ux_19 => ?_)
              refine hb_if_ne (zx := x_19.toInt) (tgt := 155) hx hb rfl dX10_isProved_143 (by decide) (fun c_20 => ?_) (fun c_20 => ?_)
              · skip
                refine lv_iconst (v := 1) hx hb dX10_isProved_155 (by decide) ?_
                refine lv_goto (tgt := 160) hx hb dX10_isProved_156 (by decide) ?_
                refine hx_zast hx hb hW hT (hx_S.rf (M := [(99, 0)])) gq_14 tt_99 rfl ⟨by omega, by omega⟩ (y := 1) (by decide) (by decide) (List.mem_singleton.mpr rfl) dX10_isProved_160 (fun H locs h_21 eh_21 hW hT hs => ?_)
                replace fq_14 := (hs.o (gx.S hM) trivial rfl).2.trans fq_14
                replace ex_1 := ex_1.trans (hs.a (gqn.S hM) rfl _).1.symm
                replace ex_9 := ex_9.trans (hs.a (gqp.S hM) rfl _).1.symm
                replace hM := hM.tr (hs.mono (by decide))
                replace gq_14 := gq_14.S hs
                obtain ⟨x_22, ex_22⟩ : ∃ y : Int32, y = iv5_4 + Int32.ofInt 1 := ⟨_, rfl⟩
                have zx_22 : x_22.toInt = iv5_4.toInt + (1) := by rw [ex_22]; exact i32_add rfl (by decide) (by omega) (by omega)
                refine lv_iinc (v := x_22) (lv' := [(4, .int x_22), (3, .int x_12), (5, .int x_9), (0, .ref x), (1, .int i1), (2, .int i2)]) hx hb dX10_isProved_161 hl (k := 2) rfl ex_22.symm (by decide) rfl (fun ls hl => ?_)
                refine lv_goto (tgt := 5) hx hb dX10_isProved_164 (by decide) ?_
                exact ih5 x_12 x_22 _ _ hL1 h_21 (by omega) (by omega) (by omega) (by omega) (by rw [zx_22, hd1]; congr 1; omega) ls (by omega) hW hT hM   (lv_sub hl [0, 1, 3, 4, 5] rfl)
              · skip
                refine lv_aload_n hx hb dX10_isProved_146 rfl (lv_at hl 3 rfl) ?_
                refine hk_getr hx hb hts hC_10 hown hW (gx.S hM) tt_10 66 (by decide) rfl kw_1209 ⟨rfl, rfl, rfl⟩ fq_14 dX10_isProved_147 ?_
                refine lv_iload_n hx hb dX10_isProved_150 rfl (lv_at hl 0 rfl) ?_
                refine hx_zald hx hb hW hT gq_14 tt_99 rfl ⟨by omega, by omega⟩ dX10_isProved_151 (fun x_23 ex_23 lx_23 ux_23 => ?_)
                have jn_160 : ∀ (xj_24 : Int32) (ls : Array Slot), 0 ≤ xj_24.toInt → xj_24.toInt ≤ 1 → lv_has ls 6 [(3, .int x_12), (5, .int x_9), (4, .int iv5_4), (0, .ref x), (1, .int i1), (2, .int i2)] → W p l e ({ frames := 1, cells := 0, slots := 0, locals := 25 }) s m ([.ref x, .int i1, .int i2] : List Value).toArray below meth c H locs 0 0 (MQ below (va_Qi (fun (r : Int32) (u : List Nat × hx_h) => (r.toInt = 0 ∨ r.toInt = 1) ∧ hx_T T_tb u.1 u.2 ∧ hx_S T_tb [(99, 0)] L h u.1 u.2) (hx_E T_tb (P_ty dA) (dC, dI) vwCl (hx_A L sz)) (hx_A L sz)) ([.ref x, .int i1, .int i2] : List Value).toArray s 0 0 (hx_A L sz)) (F0 m 160 ls [.int xj_24, .int x_16, .ref q_14]) := by
                  intro xj_24 ls blxj_24 buxj_24 hl
                  refine hx_zast hx hb hW hT (hx_S.rf (M := [(99, 0)])) gq_14 tt_99 rfl ⟨by omega, by omega⟩ (y := _) rfl (hx_nz _) (List.mem_singleton.mpr rfl) dX10_isProved_160 (fun H locs h_25 eh_25 hW hT hs => ?_)
                  replace fq_14 := (hs.o (gx.S hM) trivial rfl).2.trans fq_14
                  replace ex_1 := ex_1.trans (hs.a (gqn.S hM) rfl _).1.symm
                  replace ex_9 := ex_9.trans (hs.a (gqp.S hM) rfl _).1.symm
                  replace hM := hM.tr (hs.mono (by decide))
                  replace gq_14 := gq_14.S hs
                  obtain ⟨x_26, ex_26⟩ : ∃ y : Int32, y = iv5_4 + Int32.ofInt 1 := ⟨_, rfl⟩
                  have zx_26 : x_26.toInt = iv5_4.toInt + (1) := by rw [ex_26]; exact i32_add rfl (by decide) (by omega) (by omega)
                  refine lv_iinc (v := x_26) (lv' := [(4, .int x_26), (3, .int x_12), (5, .int x_9), (0, .ref x), (1, .int i1), (2, .int i2)]) hx hb dX10_isProved_161 hl (k := 2) rfl ex_26.symm (by decide) rfl (fun ls hl => ?_)
                  refine lv_goto (tgt := 5) hx hb dX10_isProved_164 (by decide) ?_
                  exact ih5 x_12 x_26 _ _ hL1 h_25 (by omega) (by omega) (by omega) (by omega) (by rw [zx_26, hd1]; congr 1; omega) ls (by omega) hW hT hM   (lv_sub hl [0, 1, 3, 4, 5] rfl)
                refine hb_if_eq (zx := x_23.toInt) (tgt := 159) hx hb rfl dX10_isProved_152 (by decide) (fun c_27 => ?_) (fun c_27 => ?_)
                · skip
                  refine lv_iconst (v := 0) hx hb dX10_isProved_159 (by decide) ?_
                  exact jn_160 (0 : Int32) ls (by decide) (by decide) hl
                · skip
                  refine lv_iconst (v := 1) hx hb dX10_isProved_155 (by decide) ?_
                  refine lv_goto (tgt := 160) hx hb dX10_isProved_156 (by decide) ?_
                  exact jn_160 (1 : Int32) ls (by decide) (by decide) hl
            · skip
              refine lv_aload_n hx hb dX10_isProved_107 rfl (lv_at hl 3 rfl) ?_
              refine hk_getr hx hb hts hC_10 hown hW (gx.S hM) tt_10 66 (by decide) rfl kw_1209 ⟨rfl, rfl, rfl⟩ fq_14 dX10_isProved_108 ?_
              refine lv_iload_n hx hb dX10_isProved_111 rfl (lv_at hl 0 rfl) ?_
              refine lv_iconst (v := 1) hx hb dX10_isProved_112 (by decide) ?_
              refine lv_isub hx hb dX10_isProved_113 ?_
              refine lv_topi (fun x_28 ex_28 => ?_)
              have zx_28 : x_28.toInt = x_12.toInt - 1 := by rw [ex_28]; exact i32_sub rfl (by decide) (by omega) (by omega)
              refine hx_zald hx hb hW hT gq_14 tt_99 rfl ⟨by omega, by omega⟩ dX10_isProved_114 (fun x_29 ex_29 lx_29 ux_29 => ?_)
              refine hb_if_eq (zx := x_29.toInt) (tgt := 131) hx hb rfl dX10_isProved_115 (by decide) (fun c_30 => ?_) (fun c_30 => ?_)
              · skip
                refine lv_iconst (v := 0) hx hb dX10_isProved_131 (by decide) ?_
                refine lv_goto (tgt := 160) hx hb dX10_isProved_132 (by decide) ?_
                refine hx_zast hx hb hW hT (hx_S.rf (M := [(99, 0)])) gq_14 tt_99 rfl ⟨by omega, by omega⟩ (y := 0) (by decide) (by decide) (List.mem_singleton.mpr rfl) dX10_isProved_160 (fun H locs h_31 eh_31 hW hT hs => ?_)
                replace fq_14 := (hs.o (gx.S hM) trivial rfl).2.trans fq_14
                replace ex_1 := ex_1.trans (hs.a (gqn.S hM) rfl _).1.symm
                replace ex_9 := ex_9.trans (hs.a (gqp.S hM) rfl _).1.symm
                replace hM := hM.tr (hs.mono (by decide))
                replace gq_14 := gq_14.S hs
                obtain ⟨x_32, ex_32⟩ : ∃ y : Int32, y = iv5_4 + Int32.ofInt 1 := ⟨_, rfl⟩
                have zx_32 : x_32.toInt = iv5_4.toInt + (1) := by rw [ex_32]; exact i32_add rfl (by decide) (by omega) (by omega)
                refine lv_iinc (v := x_32) (lv' := [(4, .int x_32), (3, .int x_12), (5, .int x_9), (0, .ref x), (1, .int i1), (2, .int i2)]) hx hb dX10_isProved_161 hl (k := 2) rfl ex_32.symm (by decide) rfl (fun ls hl => ?_)
                refine lv_goto (tgt := 5) hx hb dX10_isProved_164 (by decide) ?_
                exact ih5 x_12 x_32 _ _ hL1 h_31 (by omega) (by omega) (by omega) (by omega) (by rw [zx_32, hd1]; congr 1; omega) ls (by omega) hW hT hM   (lv_sub hl [0, 1, 3, 4, 5] rfl)
              · skip
                refine lv_aload_n hx hb dX10_isProved_118 rfl (lv_at hl 3 rfl) ?_
                refine hk_getr hx hb hts hC_10 hown hW (gx.S hM) tt_10 66 (by decide) rfl kw_1209 ⟨rfl, rfl, rfl⟩ fq_14 dX10_isProved_119 ?_
                refine lv_iload_n hx hb dX10_isProved_122 rfl (lv_at hl 0 rfl) ?_
                refine hx_zald hx hb hW hT gq_14 tt_99 rfl ⟨by omega, by omega⟩ dX10_isProved_123 (fun x_33 ex_33 lx_33 ux_33 => ?_)
                refine hb_if_eq (zx := x_33.toInt) (tgt := 131) hx hb rfl dX10_isProved_124 (by decide) (fun c_34 => ?_) (fun c_34 => ?_)
                · skip
                  refine lv_iconst (v := 0) hx hb dX10_isProved_131 (by decide) ?_
                  refine lv_goto (tgt := 160) hx hb dX10_isProved_132 (by decide) ?_
                  refine hx_zast hx hb hW hT (hx_S.rf (M := [(99, 0)])) gq_14 tt_99 rfl ⟨by omega, by omega⟩ (y := 0) (by decide) (by decide) (List.mem_singleton.mpr rfl) dX10_isProved_160 (fun H locs h_35 eh_35 hW hT hs => ?_)
                  replace fq_14 := (hs.o (gx.S hM) trivial rfl).2.trans fq_14
                  replace ex_1 := ex_1.trans (hs.a (gqn.S hM) rfl _).1.symm
                  replace ex_9 := ex_9.trans (hs.a (gqp.S hM) rfl _).1.symm
                  replace hM := hM.tr (hs.mono (by decide))
                  replace gq_14 := gq_14.S hs
                  obtain ⟨x_36, ex_36⟩ : ∃ y : Int32, y = iv5_4 + Int32.ofInt 1 := ⟨_, rfl⟩
                  have zx_36 : x_36.toInt = iv5_4.toInt + (1) := by rw [ex_36]; exact i32_add rfl (by decide) (by omega) (by omega)
                  refine lv_iinc (v := x_36) (lv' := [(4, .int x_36), (3, .int x_12), (5, .int x_9), (0, .ref x), (1, .int i1), (2, .int i2)]) hx hb dX10_isProved_161 hl (k := 2) rfl ex_36.symm (by decide) rfl (fun ls hl => ?_)
                  refine lv_goto (tgt := 5) hx hb dX10_isProved_164 (by decide) ?_
                  exact ih5 x_12 x_36 _ _ hL1 h_35 (by omega) (by omega) (by omega) (by omega) (by rw [zx_36, hd1]; congr 1; omega) ls (by omega) hW hT hM   (lv_sub hl [0, 1, 3, 4, 5] rfl)
                · skip
                  refine lv_iconst (v := 1) hx hb dX10_isProved_127 (by decide) ?_
                  refine lv_goto (tgt := 160) hx hb dX10_isProved_128 (by decide) ?_
                  refine hx_zast hx hb hW hT (hx_S.rf (M := [(99, 0)])) gq_14 tt_99 rfl ⟨by omega, by omega⟩ (y := 1) (by decide) (by decide) (List.mem_singleton.mpr rfl) dX10_isProved_160 (fun H locs h_37 eh_37 hW hT hs => ?_)
                  replace fq_14 := (hs.o (gx.S hM) trivial rfl).2.trans fq_14
                  replace ex_1 := ex_1.trans (hs.a (gqn.S hM) rfl _).1.symm
                  replace ex_9 := ex_9.trans (hs.a (gqp.S hM) rfl _).1.symm
                  replace hM := hM.tr (hs.mono (by decide))
                  replace gq_14 := gq_14.S hs
                  obtain ⟨x_38, ex_38⟩ : ∃ y : Int32, y = iv5_4 + Int32.ofInt 1 := ⟨_, rfl⟩
                  have zx_38 : x_38.toInt = iv5_4.toInt + (1) := by rw [ex_38]; exact i32_add rfl (by decide) (by omega) (by omega)
                  refine lv_iinc (v := x_38) (lv' := [(4, .int x_38), (3, .int x_12), (5, .int x_9), (0, .ref x), (1, .int i1), (2, .int i2)]) hx hb dX10_isProved_161 hl (k := 2) rfl ex_38.symm (by decide) rfl (fun ls hl => ?_)
                  refine lv_goto (tgt := 5) hx hb dX10_isProved_164 (by decide) ?_
                  exact ih5 x_12 x_38 _ _ hL1 h_37 (by omega) (by omega) (by omega) (by omega) (by rw [zx_38, hd1]; congr 1; omega) ls (by omega) hW hT hM   (lv_sub hl [0, 1, 3, 4, 5] rfl)
          · skip
            refine lv_aload_n hx hb dX10_isProved_64 rfl (lv_at hl 3 rfl) ?_
            refine hx_getn hx hb hts hC_10 hown hW hT (gx.S hM) tt_10 66 (by decide) rfl kw_1209 ⟨rfl, rfl, rfl⟩ dX10_isProved_65 (fun q_39 fq_39 gq_39 => ?_)
            refine lv_iload_n hx hb dX10_isProved_68 rfl (lv_at hl 2 rfl) ?_
            refine lv_iconst (v := 1) hx hb dX10_isProved_69 (by decide) ?_
            refine lv_isub hx hb dX10_isProved_70 ?_
            have rg_40 := i32_r iv5_3
            refine lv_topi (fun x_41 ex_41 => ?_)
            have zx_41 : x_41.toInt = iv5_3.toInt - 1 := by rw [ex_41]; exact i32_sub rfl (by decide) (by omega) (by omega)
            refine lv_aload_n hx hb dX10_isProved_71 rfl (lv_at hl 3 rfl) ?_
            refine hk_getr hx hb hts hC_10 hown hW (gx.S hM) tt_10 66 (by decide) rfl kw_1209 ⟨rfl, rfl, rfl⟩ fq_39 dX10_isProved_72 ?_
            refine lv_iload_n hx hb dX10_isProved_75 rfl (lv_at hl 2 rfl) ?_
            refine lv_iconst (v := 1) hx hb dX10_isProved_76 (by decide) ?_
            refine lv_isub hx hb dX10_isProved_77 ?_
            refine lv_topi (fun x_42 ex_42 => ?_)
            have zx_42 : x_42.toInt = iv5_3.toInt - 1 := by rw [ex_42]; exact i32_sub rfl (by decide) (by omega) (by omega)
            refine hx_zald hx hb hW hT gq_39 tt_99 rfl ⟨by omega, by omega⟩ dX10_isProved_78 (fun x_43 ex_43 lx_43 ux_43 => ?_)
            have jn_87 : ∀ (xj_44 : Int32) (ls : Array Slot), 0 ≤ xj_44.toInt → xj_44.toInt ≤ 1 → lv_has ls 6 [(5, .int x_9), (4, .int iv5_4), (3, .int iv5_3), (0, .ref x), (1, .int i1), (2, .int i2)] → W p l e ({ frames := 1, cells := 0, slots := 0, locals := 25 }) s m ([.ref x, .int i1, .int i2] : List Value).toArray below meth c H locs 0 0 (MQ below (va_Qi (fun (r : Int32) (u : List Nat × hx_h) => (r.toInt = 0 ∨ r.toInt = 1) ∧ hx_T T_tb u.1 u.2 ∧ hx_S T_tb [(99, 0)] L h u.1 u.2) (hx_E T_tb (P_ty dA) (dC, dI) vwCl (hx_A L sz)) (hx_A L sz)) ([.ref x, .int i1, .int i2] : List Value).toArray s 0 0 (hx_A L sz)) (F0 m 87 ls [.int xj_44, .int x_41, .ref q_39]) := by
              intro xj_44 ls blxj_44 buxj_44 hl
              refine hx_zast hx hb hW hT (hx_S.rf (M := [(99, 0)])) gq_39 tt_99 rfl ⟨by omega, by omega⟩ (y := _) rfl (hx_nz _) (List.mem_singleton.mpr rfl) dX10_isProved_87 (fun H locs h_45 eh_45 hW hT hs => ?_)
              replace fq_39 := (hs.o (gx.S hM) trivial rfl).2.trans fq_39
              replace ex_1 := ex_1.trans (hs.a (gqn.S hM) rfl _).1.symm
              replace ex_9 := ex_9.trans (hs.a (gqp.S hM) rfl _).1.symm
              replace hM := hM.tr (hs.mono (by decide))
              replace gq_39 := gq_39.S hs
              refine lv_goto (tgt := 161) hx hb dX10_isProved_88 (by decide) ?_
              obtain ⟨x_46, ex_46⟩ : ∃ y : Int32, y = iv5_4 + Int32.ofInt 1 := ⟨_, rfl⟩
              have zx_46 : x_46.toInt = iv5_4.toInt + (1) := by rw [ex_46]; exact i32_add rfl (by decide) (by omega) (by omega)
              refine lv_iinc (v := x_46) (lv' := [(4, .int x_46), (5, .int x_9), (3, .int iv5_3), (0, .ref x), (1, .int i1), (2, .int i2)]) hx hb dX10_isProved_161 hl (k := 1) rfl ex_46.symm (by decide) rfl (fun ls hl => ?_)
              refine lv_goto (tgt := 5) hx hb dX10_isProved_164 (by decide) ?_
              exact ih5 iv5_3 x_46 _ _ hL1 h_45 (by omega) (by omega) (by omega) (by omega) (by rw [zx_46, hd1]; congr 1; omega) ls (by omega) hW hT hM   (lv_sub hl [0, 2, 3, 4, 5] rfl)
            refine hb_if_ne (zx := x_43.toInt) (tgt := 86) hx hb rfl dX10_isProved_79 (by decide) (fun c_47 => ?_) (fun c_47 => ?_)
            · skip
              refine lv_iconst (v := 0) hx hb dX10_isProved_86 (by decide) ?_
              exact jn_87 (0 : Int32) ls (by decide) (by decide) hl
            · skip
              refine lv_iconst (v := 1) hx hb dX10_isProved_82 (by decide) ?_
              refine lv_goto (tgt := 87) hx hb dX10_isProved_83 (by decide) ?_
              exact jn_87 (1 : Int32) ls (by decide) (by decide) hl
        · skip
          refine lv_aload_n hx hb dX10_isProved_39 rfl (lv_at hl 3 rfl) ?_
          refine hx_getn hx hb hts hC_10 hown hW hT (gx.S hM) tt_10 66 (by decide) rfl kw_1209 ⟨rfl, rfl, rfl⟩ dX10_isProved_40 (fun q_48 fq_48 gq_48 => ?_)
          refine lv_iload_n hx hb dX10_isProved_43 rfl (lv_at hl 2 rfl) ?_
          refine lv_aload_n hx hb dX10_isProved_44 rfl (lv_at hl 3 rfl) ?_
          refine lv_iload_n hx hb dX10_isProved_45 rfl (lv_at hl 4 rfl) ?_
          refine lv_iload hx hb dX10_isProved_46 (lv_at hl 0 rfl) ?_
          refine hx_goi (hx_runV (As := [.int i1, .int x_9]) (rest := [.int iv5_3, .ref q_48]) ⟨hx, hb, hml, hown, hts⟩ hW (gx.S hM) tt_10 (T := TX10) (N := 98) rfl (t_X10_isSo l dC dI dA hL1 hl1 H.size x i1 x_9 hT (gx.S hM) ⟨by omega, by omega⟩ ⟨by omega, by omega, by omega⟩) (cwV 2 hts (hx_gV kw_1629 kw_1626 kw_1628 kw_80 kw_103) rfl rfl rfl (by decide +kernel) ⟨Nat.le_of_ble_eq_true rfl, Nat.le_of_ble_eq_true rfl⟩) rfl hl.1 rfl (Nat.le_of_ble_eq_true rfl) dX10_isProved_48 ⟨Nat.le_of_ble_eq_true rfl, Nat.le_of_ble_eq_true rfl⟩) hW (fun r_51 L_49 h_50 H locs p_52 hW => ?_)
          obtain ⟨hr_53, hT, hs⟩ := p_52
          replace hT : hx_T T_tb L_49 h_50 := hT
          replace hs : hx_S T_tb [] hL1 hl1 L_49 h_50 := hs
          replace fq_48 := (hs.o (gx.S hM) trivial rfl).2.trans fq_48
          replace ex_1 := ex_1.trans (hs.a (gqn.S hM) rfl _).1.symm
          replace ex_9 := ex_9.trans (hs.a (gqp.S hM) rfl _).1.symm
          replace hM := hM.tr (hs.mono (by decide))
          replace gq_48 := gq_48.S hs
          refine hx_zast hx hb hW hT (hx_S.rf (M := [(99, 0)])) gq_48 tt_99 rfl ⟨by omega, by omega⟩ (y := _) rfl (hx_nz _) (List.mem_singleton.mpr rfl) dX10_isProved_51 (fun H locs h_54 eh_54 hW hT hs => ?_)
          replace fq_48 := (hs.o (gx.S hM) trivial rfl).2.trans fq_48
          replace ex_1 := ex_1.trans (hs.a (gqn.S hM) rfl _).1.symm
          replace ex_9 := ex_9.trans (hs.a (gqp.S hM) rfl _).1.symm
          replace hM := hM.tr (hs.mono (by decide))
          replace gq_48 := gq_48.S hs
          obtain ⟨x_55, ex_55⟩ : ∃ y : Int32, y = iv5_3 + Int32.ofInt 1 := ⟨_, rfl⟩
          have rg_56 := i32_r iv5_3
          have zx_55 : x_55.toInt = iv5_3.toInt + (1) := by rw [ex_55]; exact i32_add rfl (by decide) (by omega) (by omega)
          refine lv_iinc (v := x_55) (lv' := [(3, .int x_55), (5, .int x_9), (4, .int iv5_4), (0, .ref x), (1, .int i1), (2, .int i2)]) hx hb dX10_isProved_52 hl (k := 2) rfl ex_55.symm (by decide) rfl (fun ls hl => ?_)
          refine lv_goto (tgt := 161) hx hb dX10_isProved_55 (by decide) ?_
          obtain ⟨x_57, ex_57⟩ : ∃ y : Int32, y = iv5_4 + Int32.ofInt 1 := ⟨_, rfl⟩
          have zx_57 : x_57.toInt = iv5_4.toInt + (1) := by rw [ex_57]; exact i32_add rfl (by decide) (by omega) (by omega)
          refine lv_iinc (v := x_57) (lv' := [(4, .int x_57), (3, .int x_55), (5, .int x_9), (0, .ref x), (1, .int i1), (2, .int i2)]) hx hb dX10_isProved_161 hl (k := 2) rfl ex_57.symm (by decide) rfl (fun ls hl => ?_)
          refine lv_goto (tgt := 5) hx hb dX10_isProved_164 (by decide) ?_
          exact ih5 x_55 x_57 _ _ L_49 h_54 (by omega) (by omega) (by omega) (by omega) (by rw [zx_57, hd1]; congr 1; omega) ls (by omega) hW hT hM   (lv_sub hl [0, 1, 3, 4, 5] rfl)
  have zk_0 : (0 : Int32).toInt = 0 := by decide
  have zk_0 : (0 : Int32).toInt = 0 := by decide
  exact loop5 129 (0 : Int32) (0 : Int32) _ _ L h (by decide) (by decide) (by decide) (by decide) rfl ls (by omega) hW hT hM   hl

def wLX10_judges_0 : List Nat := [42, 180, 0, 90, 27, 46, 42, 180, 0, 38, 42, 180, 0, 84, 27, 46, 46, 100, 17, 1, 109, 42, 28, 16, 8, 182, 1, 77, 104, 162, 0, 5, 4, 172, 42, 180, 0, 87, 27, 46, 42, 28, 3, 182, 1, 77, 164, 0, 5, 5, 172, 42, 27, 28, 182, 1, 120, 153, 0, 5, 6, 172, 42, 27]
def wLX10_judges_1 : List Nat := [28, 182, 1, 123, 153, 0, 7, 8, 167, 0, 4, 7, 172]
theorem wX10_judges_0 : (cX10_judges.data.toList.map UInt8.toNat).drop 0 = wLX10_judges_0 ++ (wLX10_judges_1 ++ ([])) := by decide +kernel
theorem wX10_judges_1 : (cX10_judges.data.toList.map UInt8.toNat).drop 64 = wLX10_judges_1 ++ ([]) := hz_wn wX10_judges_0 rfl
theorem dX10_judges_0 : decode cX10_judges 0 = .ok (.aload_n 0, 1) := dq_42 (hz_wg wX10_judges_0 (j := 0) (n := 42) rfl)
theorem dX10_judges_1 : decode cX10_judges 1 = .ok (.getfield 90, 3) := dq_180 (hz_wg wX10_judges_0 (j := 1) (n := 180) rfl) (hz_wg wX10_judges_0 (j := 2) (n := 0) rfl) (hz_wg wX10_judges_0 (j := 3) (n := 90) rfl) rfl
theorem dX10_judges_4 : decode cX10_judges 4 = .ok (.iload_n 1, 1) := dq_27 (hz_wg wX10_judges_0 (j := 4) (n := 27) rfl)
theorem dX10_judges_5 : decode cX10_judges 5 = .ok (.iaload, 1) := dq_46 (hz_wg wX10_judges_0 (j := 5) (n := 46) rfl)
theorem dX10_judges_6 : decode cX10_judges 6 = .ok (.aload_n 0, 1) := dq_42 (hz_wg wX10_judges_0 (j := 6) (n := 42) rfl)
theorem dX10_judges_7 : decode cX10_judges 7 = .ok (.getfield 38, 3) := dq_180 (hz_wg wX10_judges_0 (j := 7) (n := 180) rfl) (hz_wg wX10_judges_0 (j := 8) (n := 0) rfl) (hz_wg wX10_judges_0 (j := 9) (n := 38) rfl) rfl
theorem dX10_judges_10 : decode cX10_judges 10 = .ok (.aload_n 0, 1) := dq_42 (hz_wg wX10_judges_0 (j := 10) (n := 42) rfl)
theorem dX10_judges_11 : decode cX10_judges 11 = .ok (.getfield 84, 3) := dq_180 (hz_wg wX10_judges_0 (j := 11) (n := 180) rfl) (hz_wg wX10_judges_0 (j := 12) (n := 0) rfl) (hz_wg wX10_judges_0 (j := 13) (n := 84) rfl) rfl
theorem dX10_judges_14 : decode cX10_judges 14 = .ok (.iload_n 1, 1) := dq_27 (hz_wg wX10_judges_0 (j := 14) (n := 27) rfl)
theorem dX10_judges_15 : decode cX10_judges 15 = .ok (.iaload, 1) := dq_46 (hz_wg wX10_judges_0 (j := 15) (n := 46) rfl)
theorem dX10_judges_16 : decode cX10_judges 16 = .ok (.iaload, 1) := dq_46 (hz_wg wX10_judges_0 (j := 16) (n := 46) rfl)
theorem dX10_judges_17 : decode cX10_judges 17 = .ok (.isub, 1) := dq_100 (hz_wg wX10_judges_0 (j := 17) (n := 100) rfl)
theorem dX10_judges_18 : decode cX10_judges 18 = .ok (.sipush 365, 3) := dq_17 (hz_wg wX10_judges_0 (j := 18) (n := 17) rfl) (hz_wg wX10_judges_0 (j := 19) (n := 1) rfl) (hz_wg wX10_judges_0 (j := 20) (n := 109) rfl) (by decide)
theorem dX10_judges_21 : decode cX10_judges 21 = .ok (.aload_n 0, 1) := dq_42 (hz_wg wX10_judges_0 (j := 21) (n := 42) rfl)
theorem dX10_judges_22 : decode cX10_judges 22 = .ok (.iload_n 2, 1) := dq_28 (hz_wg wX10_judges_0 (j := 22) (n := 28) rfl)
theorem dX10_judges_23 : decode cX10_judges 23 = .ok (.bipush 8, 2) := dq_16 (hz_wg wX10_judges_0 (j := 23) (n := 16) rfl) (hz_wg wX10_judges_0 (j := 24) (n := 8) rfl) (by decide)
theorem dX10_judges_25 : decode cX10_judges 25 = .ok (.invokevirtual 333, 3) := dq_182 (hz_wg wX10_judges_0 (j := 25) (n := 182) rfl) (hz_wg wX10_judges_0 (j := 26) (n := 1) rfl) (hz_wg wX10_judges_0 (j := 27) (n := 77) rfl) rfl
theorem dX10_judges_28 : decode cX10_judges 28 = .ok (.imul, 1) := dq_104 (hz_wg wX10_judges_0 (j := 28) (n := 104) rfl)
theorem dX10_judges_29 : decode cX10_judges 29 = .ok (.if_icmp .ge 5, 3) := dq_162 (hz_wg wX10_judges_0 (j := 29) (n := 162) rfl) (hz_wg wX10_judges_0 (j := 30) (n := 0) rfl) (hz_wg wX10_judges_0 (j := 31) (n := 5) rfl) (by decide)
theorem dX10_judges_32 : decode cX10_judges 32 = .ok (.iconst 1, 1) := dq_4 (hz_wg wX10_judges_0 (j := 32) (n := 4) rfl)
theorem dX10_judges_33 : decode cX10_judges 33 = .ok (.ireturn, 1) := dq_172 (hz_wg wX10_judges_0 (j := 33) (n := 172) rfl)
theorem dX10_judges_34 : decode cX10_judges 34 = .ok (.aload_n 0, 1) := dq_42 (hz_wg wX10_judges_0 (j := 34) (n := 42) rfl)
theorem dX10_judges_35 : decode cX10_judges 35 = .ok (.getfield 87, 3) := dq_180 (hz_wg wX10_judges_0 (j := 35) (n := 180) rfl) (hz_wg wX10_judges_0 (j := 36) (n := 0) rfl) (hz_wg wX10_judges_0 (j := 37) (n := 87) rfl) rfl
theorem dX10_judges_38 : decode cX10_judges 38 = .ok (.iload_n 1, 1) := dq_27 (hz_wg wX10_judges_0 (j := 38) (n := 27) rfl)
theorem dX10_judges_39 : decode cX10_judges 39 = .ok (.iaload, 1) := dq_46 (hz_wg wX10_judges_0 (j := 39) (n := 46) rfl)
theorem dX10_judges_40 : decode cX10_judges 40 = .ok (.aload_n 0, 1) := dq_42 (hz_wg wX10_judges_0 (j := 40) (n := 42) rfl)
theorem dX10_judges_41 : decode cX10_judges 41 = .ok (.iload_n 2, 1) := dq_28 (hz_wg wX10_judges_0 (j := 41) (n := 28) rfl)
theorem dX10_judges_42 : decode cX10_judges 42 = .ok (.iconst 0, 1) := dq_3 (hz_wg wX10_judges_0 (j := 42) (n := 3) rfl)
theorem dX10_judges_43 : decode cX10_judges 43 = .ok (.invokevirtual 333, 3) := dq_182 (hz_wg wX10_judges_0 (j := 43) (n := 182) rfl) (hz_wg wX10_judges_0 (j := 44) (n := 1) rfl) (hz_wg wX10_judges_0 (j := 45) (n := 77) rfl) rfl
theorem dX10_judges_46 : decode cX10_judges 46 = .ok (.if_icmp .le 5, 3) := dq_164 (hz_wg wX10_judges_0 (j := 46) (n := 164) rfl) (hz_wg wX10_judges_0 (j := 47) (n := 0) rfl) (hz_wg wX10_judges_0 (j := 48) (n := 5) rfl) (by decide)
theorem dX10_judges_49 : decode cX10_judges 49 = .ok (.iconst 2, 1) := dq_5 (hz_wg wX10_judges_0 (j := 49) (n := 5) rfl)
theorem dX10_judges_50 : decode cX10_judges 50 = .ok (.ireturn, 1) := dq_172 (hz_wg wX10_judges_0 (j := 50) (n := 172) rfl)
theorem dX10_judges_51 : decode cX10_judges 51 = .ok (.aload_n 0, 1) := dq_42 (hz_wg wX10_judges_0 (j := 51) (n := 42) rfl)
theorem dX10_judges_52 : decode cX10_judges 52 = .ok (.iload_n 1, 1) := dq_27 (hz_wg wX10_judges_0 (j := 52) (n := 27) rfl)
theorem dX10_judges_53 : decode cX10_judges 53 = .ok (.iload_n 2, 1) := dq_28 (hz_wg wX10_judges_0 (j := 53) (n := 28) rfl)
theorem dX10_judges_54 : decode cX10_judges 54 = .ok (.invokevirtual 376, 3) := dq_182 (hz_wg wX10_judges_0 (j := 54) (n := 182) rfl) (hz_wg wX10_judges_0 (j := 55) (n := 1) rfl) (hz_wg wX10_judges_0 (j := 56) (n := 120) rfl) rfl
theorem dX10_judges_57 : decode cX10_judges 57 = .ok (.ifCond .eq 5, 3) := dq_153 (hz_wg wX10_judges_0 (j := 57) (n := 153) rfl) (hz_wg wX10_judges_0 (j := 58) (n := 0) rfl) (hz_wg wX10_judges_0 (j := 59) (n := 5) rfl) (by decide)
theorem dX10_judges_60 : decode cX10_judges 60 = .ok (.iconst 3, 1) := dq_6 (hz_wg wX10_judges_0 (j := 60) (n := 6) rfl)
theorem dX10_judges_61 : decode cX10_judges 61 = .ok (.ireturn, 1) := dq_172 (hz_wg wX10_judges_0 (j := 61) (n := 172) rfl)
theorem dX10_judges_62 : decode cX10_judges 62 = .ok (.aload_n 0, 1) := dq_42 (hz_wg wX10_judges_0 (j := 62) (n := 42) rfl)
theorem dX10_judges_63 : decode cX10_judges 63 = .ok (.iload_n 1, 1) := dq_27 (hz_wg wX10_judges_0 (j := 63) (n := 27) rfl)
theorem dX10_judges_64 : decode cX10_judges 64 = .ok (.iload_n 2, 1) := dq_28 (hz_wg wX10_judges_1 (j := 0) (n := 28) rfl)
theorem dX10_judges_65 : decode cX10_judges 65 = .ok (.invokevirtual 379, 3) := dq_182 (hz_wg wX10_judges_1 (j := 1) (n := 182) rfl) (hz_wg wX10_judges_1 (j := 2) (n := 1) rfl) (hz_wg wX10_judges_1 (j := 3) (n := 123) rfl) rfl
theorem dX10_judges_68 : decode cX10_judges 68 = .ok (.ifCond .eq 7, 3) := dq_153 (hz_wg wX10_judges_1 (j := 4) (n := 153) rfl) (hz_wg wX10_judges_1 (j := 5) (n := 0) rfl) (hz_wg wX10_judges_1 (j := 6) (n := 7) rfl) (by decide)
theorem dX10_judges_71 : decode cX10_judges 71 = .ok (.iconst 5, 1) := dq_8 (hz_wg wX10_judges_1 (j := 7) (n := 8) rfl)
theorem dX10_judges_72 : decode cX10_judges 72 = .ok (.goto 4, 3) := dq_167 (hz_wg wX10_judges_1 (j := 8) (n := 167) rfl) (hz_wg wX10_judges_1 (j := 9) (n := 0) rfl) (hz_wg wX10_judges_1 (j := 10) (n := 4) rfl) (by decide)
theorem dX10_judges_75 : decode cX10_judges 75 = .ok (.iconst 4, 1) := dq_7 (hz_wg wX10_judges_1 (j := 11) (n := 7) rfl)
theorem dX10_judges_76 : decode cX10_judges 76 = .ok (.ireturn, 1) := dq_172 (hz_wg wX10_judges_1 (j := 12) (n := 172) rfl)
set_option maxHeartbeats 4000000 in
set_option maxRecDepth 100000 in
theorem t_X10_judges (l : Launch) (dC : Nat → ClassId) (dI : Nat → Nat → Nat) (dA : Nat → ClassId) (L : List Nat) (h : hx_h) (sz : Nat) (x : Nat) (i1 : Int32) (i2 : Int32) (hT : hx_T T_tb L h) (gx : hx_g L h x 10) (qn : Nat) (gqn : hx_g L h qn 51) (f_x_4 : h.2.2 x 4 = some qn) (qp : Nat) (gqp : hx_g L h qp 52) (f_x_5 : h.2.2 x 5 = some qp) (psf : Nat → Int32) (af_qn : h.2.1 qn = psf) (prf : Nat → Int32) (af_qp : h.2.1 qp = prf) (a0 : Int32) (f_x_1 : h.2.1 x 1 = a0) (hi1 : 0 ≤ i1.toInt ∧ i1.toInt ≤ 99) (hi2 : 0 ≤ i2.toInt ∧ i2.toInt ≤ a0.toInt) (hRP : hx_RP prf psf a0.toInt) : Met l yX10_judges (Cond.code yX10_judges cX10_judges 3 (some .int) :: hx_all) ({ frames := 2, cells := 0, slots := 0, locals := 50 }) (va_Pc [.ref x, .int i1, .int i2] (hx_B T_tb (P_ty dA) (dC, dI) vwCl L h sz)) (va_Qi (fun (r : Int32) (u : List Nat × hx_h) => (True) ∧ hx_T T_tb u.1 u.2 ∧ hx_S T_tb [(99, 0)] L h u.1 u.2) (hx_E T_tb (P_ty dA) (dC, dI) vwCl (hx_A L sz)) (hx_A L sz)) 0 0 (hx_A L sz) := by
  refine hx_met (lv := [(0, .ref x), (1, .int i1), (2, .int i2)]) (by decide +kernel) rfl (Nat.le_of_ble_eq_true rfl) rfl ?_
  intro p e s m below meth c hx hb hml hr hlk hts0 hown hin hsz hW ls hl
  have hts : ∀ w ∈ hx_all, w.before _ s = true := fun w hw => hts0 w (List.mem_cons_of_mem _ hw)
  have hown : s.vm.findClass "SmallCourtModel" = some m.cls := hown
  have hM : hx_S T_tb [(99, 0)] L h L h := hx_S.rf
  have b_a0 := hT.gi gx tt_10 (k := 1) rfl
  rw [f_x_1] at b_a0
  have b_a0 : 0 ≤ a0.toInt ∧ a0.toInt ≤ 8 := b_a0
  refine lv_aload_n hx hb dX10_judges_0 rfl (lv_at hl 0 rfl) ?_
  refine hx_getn hx hb hts hC_10 hown hW hT (gx.S hM) tt_10 40 (by decide) rfl kw_1183 ⟨rfl, rfl, rfl⟩ dX10_judges_1 (fun q_1 fq_1 gq_1 => ?_)
  refine lv_iload_n hx hb dX10_judges_4 rfl (lv_at hl 1 rfl) ?_
  refine hx_iald hx hb hW hT gq_1 tt_75 rfl ⟨by omega, by omega⟩ dX10_judges_5 (fun x_2 ex_2 lx_2 ux_2 => ?_)
  refine lv_aload_n hx hb dX10_judges_6 rfl (lv_at hl 0 rfl) ?_
  refine hx_getn hx hb hts hC_10 hown hW hT (gx.S hM) tt_10 21 (by decide) rfl kw_1164 ⟨rfl, rfl, rfl⟩ dX10_judges_7 (fun q_3 fq_3 gq_3 => ?_)
  refine lv_aload_n hx hb dX10_judges_10 rfl (lv_at hl 0 rfl) ?_
  refine hx_getn hx hb hts hC_10 hown hW hT (gx.S hM) tt_10 38 (by decide) rfl kw_1181 ⟨rfl, rfl, rfl⟩ dX10_judges_11 (fun q_4 fq_4 gq_4 => ?_)
  refine lv_iload_n hx hb dX10_judges_14 rfl (lv_at hl 1 rfl) ?_
  refine hx_iald hx hb hW hT gq_4 tt_73 rfl ⟨by omega, by omega⟩ dX10_judges_15 (fun x_5 ex_5 lx_5 ux_5 => ?_)
  refine hx_iald hx hb hW hT gq_3 tt_58 rfl ⟨by omega, by omega⟩ dX10_judges_16 (fun x_6 ex_6 lx_6 ux_6 => ?_)
  refine lv_isub hx hb dX10_judges_17 ?_
  have rg_7 := i32_r x_2
  have rg_8 := i32_r x_6
  refine lv_topi (fun x_9 ex_9 => ?_)
  refine lv_sipush (v := 365) hx hb dX10_judges_18 (by decide) ?_
  refine lv_aload_n hx hb dX10_judges_21 rfl (lv_at hl 0 rfl) ?_
  refine lv_iload_n hx hb dX10_judges_22 rfl (lv_at hl 2 rfl) ?_
  refine lv_bipush (v := 8) hx hb dX10_judges_23 (by decide) ?_
  have zc_8 : (8 : Int32).toInt = 8 := by decide
  have zc_365 : (365 : Int32).toInt = 365 := by decide
  refine hx_goi (hx_runV (As := [.int i2, .int (8 : Int32)]) (rest := [.int (365 : Int32), .int x_9]) ⟨hx, hb, hml, hown, hts⟩ hW (gx.S hM) tt_10 (T := TX10) (N := 98) rfl (t_X10_ruleOf l dC dI dA L h s.heap.size x i2 (8 : Int32) hT (gx.S hM) ⟨by omega, by omega⟩ (by decide)) (cwV 2 hts (hx_gV kw_1533 kw_1530 kw_1532 kw_66 kw_103) rfl rfl rfl (by decide +kernel) ⟨Nat.le_of_ble_eq_true rfl, Nat.le_of_ble_eq_true rfl⟩) rfl hl.1 rfl (Nat.le_of_ble_eq_true rfl) dX10_judges_25 ⟨Nat.le_of_ble_eq_true rfl, Nat.le_of_ble_eq_true rfl⟩) hW (fun r_12 L_10 h_11 H locs p_13 hW => ?_)
  obtain ⟨hr_14, hT, hs⟩ := p_13
  replace hT : hx_T T_tb L_10 h_11 := hT
  replace hs : hx_S T_tb [] L h L_10 h_11 := hs
  replace fq_1 := (hs.o (gx.S hM) trivial rfl).2.trans fq_1
  replace fq_3 := (hs.o (gx.S hM) trivial rfl).2.trans fq_3
  replace fq_4 := (hs.o (gx.S hM) trivial rfl).2.trans fq_4
  replace ex_2 := ex_2.trans (hs.a gq_1 rfl _).1.symm
  replace ex_5 := ex_5.trans (hs.a gq_4 rfl _).1.symm
  replace ex_6 := ex_6.trans (hs.a gq_3 rfl _).1.symm
  replace hM := hM.tr (hs.mono (by decide))
  replace gq_1 := gq_1.S hs
  replace gq_3 := gq_3.S hs
  replace gq_4 := gq_4.S hs
  refine lv_imul hx hb dX10_judges_28 ?_
  refine lv_topi (fun x_15 ex_15 => ?_)
  have zx_15 : x_15.toInt = 365 * r_12.toInt := by rw [ex_15]; exact i32_mul (by decide) rfl rfl (by omega) (by omega)
  refine hb_icmp_ge (zx := x_9.toInt) (zy := x_15.toInt) (tgt := 34) hx hb rfl rfl dX10_judges_29 (by decide) (fun c_16 => ?_) (fun c_16 => ?_)
  · skip
    refine lv_aload_n hx hb dX10_judges_34 rfl (lv_at hl 0 rfl) ?_
    refine hx_getn hx hb hts hC_10 hown hW hT (gx.S hM) tt_10 39 (by decide) rfl kw_1182 ⟨rfl, rfl, rfl⟩ dX10_judges_35 (fun q_17 fq_17 gq_17 => ?_)
    refine lv_iload_n hx hb dX10_judges_38 rfl (lv_at hl 1 rfl) ?_
    refine hx_iald hx hb hW hT gq_17 tt_74 rfl ⟨by omega, by omega⟩ dX10_judges_39 (fun x_18 ex_18 lx_18 ux_18 => ?_)
    refine lv_aload_n hx hb dX10_judges_40 rfl (lv_at hl 0 rfl) ?_
    refine lv_iload_n hx hb dX10_judges_41 rfl (lv_at hl 2 rfl) ?_
    refine lv_iconst (v := 0) hx hb dX10_judges_42 (by decide) ?_
    have zc_0 : (0 : Int32).toInt = 0 := by decide
    refine hx_goi (hx_runV (As := [.int i2, .int (0 : Int32)]) (rest := [.int x_18]) ⟨hx, hb, hml, hown, hts⟩ hW (gx.S hM) tt_10 (T := TX10) (N := 98) rfl (t_X10_ruleOf l dC dI dA L_10 h_11 H.size x i2 (0 : Int32) hT (gx.S hM) ⟨by omega, by omega⟩ (by decide)) (cwV 2 hts (hx_gV kw_1533 kw_1530 kw_1532 kw_66 kw_103) rfl rfl rfl (by decide +kernel) ⟨Nat.le_of_ble_eq_true rfl, Nat.le_of_ble_eq_true rfl⟩) rfl hl.1 rfl (Nat.le_of_ble_eq_true rfl) dX10_judges_43 ⟨Nat.le_of_ble_eq_true rfl, Nat.le_of_ble_eq_true rfl⟩) hW (fun r_21 L_19 h_20 H locs p_22 hW => ?_)
    obtain ⟨hr_23, hT, hs⟩ := p_22
    replace hT : hx_T T_tb L_19 h_20 := hT
    replace hs : hx_S T_tb [] L_10 h_11 L_19 h_20 := hs
    replace fq_1 := (hs.o (gx.S hM) trivial rfl).2.trans fq_1
    replace fq_3 := (hs.o (gx.S hM) trivial rfl).2.trans fq_3
    replace fq_4 := (hs.o (gx.S hM) trivial rfl).2.trans fq_4
    replace fq_17 := (hs.o (gx.S hM) trivial rfl).2.trans fq_17
    replace ex_2 := ex_2.trans (hs.a gq_1 rfl _).1.symm
    replace ex_5 := ex_5.trans (hs.a gq_4 rfl _).1.symm
    replace ex_6 := ex_6.trans (hs.a gq_3 rfl _).1.symm
    replace ex_18 := ex_18.trans (hs.a gq_17 rfl _).1.symm
    replace hM := hM.tr (hs.mono (by decide))
    replace gq_1 := gq_1.S hs
    replace gq_3 := gq_3.S hs
    replace gq_4 := gq_4.S hs
    replace gq_17 := gq_17.S hs
    refine hb_icmp_le (zx := x_18.toInt) (zy := r_21.toInt) (tgt := 51) hx hb rfl rfl dX10_judges_46 (by decide) (fun c_24 => ?_) (fun c_24 => ?_)
    · skip
      refine lv_aload_n hx hb dX10_judges_51 rfl (lv_at hl 0 rfl) ?_
      refine lv_iload_n hx hb dX10_judges_52 rfl (lv_at hl 1 rfl) ?_
      refine lv_iload_n hx hb dX10_judges_53 rfl (lv_at hl 2 rfl) ?_
      refine hx_goi (hx_runV (As := [.int i1, .int i2]) (rest := []) ⟨hx, hb, hml, hown, hts⟩ hW (gx.S hM) tt_10 (T := TX10) (N := 98) rfl (t_X10_isSplit l dC dI dA L_19 h_20 H.size x i1 i2 hT (gx.S hM) ⟨by omega, by omega⟩ ⟨by omega, by omega⟩) (cwV 2 hts (hx_gV kw_1621 kw_1618 kw_1620 kw_78 kw_103) rfl rfl rfl (by decide +kernel) ⟨Nat.le_of_ble_eq_true rfl, Nat.le_of_ble_eq_true rfl⟩) rfl hl.1 rfl (Nat.le_of_ble_eq_true rfl) dX10_judges_54 ⟨Nat.le_of_ble_eq_true rfl, Nat.le_of_ble_eq_true rfl⟩) hW (fun r_27 L_25 h_26 H locs p_28 hW => ?_)
      obtain ⟨hr_29, hT, hs⟩ := p_28
      replace hT : hx_T T_tb L_25 h_26 := hT
      replace hs : hx_S T_tb [] L_19 h_20 L_25 h_26 := hs
      replace fq_1 := (hs.o (gx.S hM) trivial rfl).2.trans fq_1
      replace fq_3 := (hs.o (gx.S hM) trivial rfl).2.trans fq_3
      replace fq_4 := (hs.o (gx.S hM) trivial rfl).2.trans fq_4
      replace fq_17 := (hs.o (gx.S hM) trivial rfl).2.trans fq_17
      replace ex_2 := ex_2.trans (hs.a gq_1 rfl _).1.symm
      replace ex_5 := ex_5.trans (hs.a gq_4 rfl _).1.symm
      replace ex_6 := ex_6.trans (hs.a gq_3 rfl _).1.symm
      replace ex_18 := ex_18.trans (hs.a gq_17 rfl _).1.symm
      replace hM := hM.tr (hs.mono (by decide))
      replace gq_1 := gq_1.S hs
      replace gq_3 := gq_3.S hs
      replace gq_4 := gq_4.S hs
      replace gq_17 := gq_17.S hs
      refine hb_if_eq (zx := r_27.toInt) (tgt := 62) hx hb rfl dX10_judges_57 (by decide) (fun c_30 => ?_) (fun c_30 => ?_)
      · skip
        refine lv_aload_n hx hb dX10_judges_62 rfl (lv_at hl 0 rfl) ?_
        refine lv_iload_n hx hb dX10_judges_63 rfl (lv_at hl 1 rfl) ?_
        refine lv_iload_n hx hb dX10_judges_64 rfl (lv_at hl 2 rfl) ?_
        refine hx_goi (hx_runV (As := [.int i1, .int i2]) (rest := []) ⟨hx, hb, hml, hown, hts⟩ hW (gx.S hM) tt_10 (T := TX10) (N := 98) rfl (t_X10_isProved l dC dI dA L_25 h_26 H.size x i1 i2 hT (gx.S hM) qn (gqn.S hM) ((hM.o gx trivial rfl).2.trans f_x_4) qp (gqp.S hM) ((hM.o gx trivial rfl).2.trans f_x_5) psf (hx_afS hM gqn rfl af_qn) prf (hx_afS hM gqp rfl af_qp) ⟨by omega, by omega⟩ ⟨by omega, by omega⟩ (hRP _ (by omega) (by omega)).2) (cwV 2 hts (hx_gV kw_1625 kw_1622 kw_1624 kw_79 kw_103) rfl rfl rfl (by decide +kernel) ⟨Nat.le_of_ble_eq_true rfl, Nat.le_of_ble_eq_true rfl⟩) rfl hl.1 rfl (Nat.le_of_ble_eq_true rfl) dX10_judges_65 ⟨Nat.le_of_ble_eq_true rfl, Nat.le_of_ble_eq_true rfl⟩) hW (fun r_33 L_31 h_32 H locs p_34 hW => ?_)
        obtain ⟨hr_35, hT, hs⟩ := p_34
        replace hT : hx_T T_tb L_31 h_32 := hT
        replace hs : hx_S T_tb [(99, 0)] L_25 h_26 L_31 h_32 := hs
        replace fq_1 := (hs.o (gx.S hM) trivial rfl).2.trans fq_1
        replace fq_3 := (hs.o (gx.S hM) trivial rfl).2.trans fq_3
        replace fq_4 := (hs.o (gx.S hM) trivial rfl).2.trans fq_4
        replace fq_17 := (hs.o (gx.S hM) trivial rfl).2.trans fq_17
        replace ex_2 := ex_2.trans (hs.a gq_1 rfl _).1.symm
        replace ex_5 := ex_5.trans (hs.a gq_4 rfl _).1.symm
        replace ex_6 := ex_6.trans (hs.a gq_3 rfl _).1.symm
        replace ex_18 := ex_18.trans (hs.a gq_17 rfl _).1.symm
        replace hM := hM.tr (hs.mono (by decide))
        replace gq_1 := gq_1.S hs
        replace gq_3 := gq_3.S hs
        replace gq_4 := gq_4.S hs
        replace gq_17 := gq_17.S hs
        have jn_76 : ∀ (xj_36 : Int32) (ls : Array Slot), 4 ≤ xj_36.toInt → xj_36.toInt ≤ 5 → lv_has ls 3 [(0, .ref x), (1, .int i1), (2, .int i2)] → W p l e ({ frames := 2, cells := 0, slots := 0, locals := 50 }) s m ([.ref x, .int i1, .int i2] : List Value).toArray below meth c H locs 0 0 (MQ below (va_Qi (fun (r : Int32) (u : List Nat × hx_h) => (True) ∧ hx_T T_tb u.1 u.2 ∧ hx_S T_tb [(99, 0)] L h u.1 u.2) (hx_E T_tb (P_ty dA) (dC, dI) vwCl (hx_A L sz)) (hx_A L sz)) ([.ref x, .int i1, .int i2] : List Value).toArray s 0 0 (hx_A L sz)) (F0 m 76 ls [.int xj_36]) := by
          intro xj_36 ls blxj_36 buxj_36 hl
          exact hx_reti hx hb hr hlk hW ⟨trivial, hT, hM⟩ dX10_judges_76
        refine hb_if_eq (zx := r_33.toInt) (tgt := 75) hx hb rfl dX10_judges_68 (by decide) (fun c_37 => ?_) (fun c_37 => ?_)
        · skip
          refine lv_iconst (v := 4) hx hb dX10_judges_75 (by decide) ?_
          exact jn_76 (4 : Int32) ls (by decide) (by decide) hl
        · skip
          refine lv_iconst (v := 5) hx hb dX10_judges_71 (by decide) ?_
          refine lv_goto (tgt := 76) hx hb dX10_judges_72 (by decide) ?_
          exact jn_76 (5 : Int32) ls (by decide) (by decide) hl
      · skip
        refine lv_iconst (v := 3) hx hb dX10_judges_60 (by decide) ?_
        exact hx_reti hx hb hr hlk hW ⟨trivial, hT, hM⟩ dX10_judges_61
    · skip
      refine lv_iconst (v := 2) hx hb dX10_judges_49 (by decide) ?_
      exact hx_reti hx hb hr hlk hW ⟨trivial, hT, hM⟩ dX10_judges_50
  · skip
    refine lv_iconst (v := 1) hx hb dX10_judges_32 (by decide) ?_
    exact hx_reti hx hb hr hlk hW ⟨trivial, hT, hM⟩ dX10_judges_33

def wLX10_other_0 : List Nat := [27, 2, 42, 180, 1, 65, 4, 100, 184, 0, 228, 153, 0, 13, 28, 4, 16, 6, 184, 0, 228, 154, 0, 5, 2, 172, 27, 4, 96, 62, 3, 54, 4, 3, 54, 5, 3, 54, 6, 21, 6, 42, 180, 1, 136, 162, 0, 89, 42, 180, 0, 141, 21, 6, 46, 54, 7, 42, 21, 7, 29, 182, 1, 139]
def wLX10_other_1 : List Nat := [54, 8, 21, 4, 21, 8, 28, 160, 0, 7, 4, 167, 0, 4, 3, 96, 54, 4, 21, 5, 42, 180, 0, 105, 21, 7, 46, 42, 29, 16, 9, 182, 1, 77, 104, 42, 29, 16, 10, 182, 1, 77, 96, 21, 8, 8, 160, 0, 13, 42, 29, 16, 11, 182, 1, 77, 167, 0, 4, 3, 96, 96, 54, 5]
def wLX10_other_2 : List Nat := [132, 6, 1, 167, 255, 164, 28, 16, 6, 160, 0, 8, 21, 5, 167, 0, 5, 21, 4, 172]
theorem wX10_other_0 : (cX10_other.data.toList.map UInt8.toNat).drop 0 = wLX10_other_0 ++ (wLX10_other_1 ++ (wLX10_other_2 ++ ([]))) := by decide +kernel
theorem wX10_other_1 : (cX10_other.data.toList.map UInt8.toNat).drop 64 = wLX10_other_1 ++ (wLX10_other_2 ++ ([])) := hz_wn wX10_other_0 rfl
theorem wX10_other_2 : (cX10_other.data.toList.map UInt8.toNat).drop 128 = wLX10_other_2 ++ ([]) := hz_wn wX10_other_1 rfl
theorem dX10_other_0 : decode cX10_other 0 = .ok (.iload_n 1, 1) := dq_27 (hz_wg wX10_other_0 (j := 0) (n := 27) rfl)
theorem dX10_other_1 : decode cX10_other 1 = .ok (.iconst (-1), 1) := dq_2 (hz_wg wX10_other_0 (j := 1) (n := 2) rfl)
theorem dX10_other_2 : decode cX10_other 2 = .ok (.aload_n 0, 1) := dq_42 (hz_wg wX10_other_0 (j := 2) (n := 42) rfl)
theorem dX10_other_3 : decode cX10_other 3 = .ok (.getfield 321, 3) := dq_180 (hz_wg wX10_other_0 (j := 3) (n := 180) rfl) (hz_wg wX10_other_0 (j := 4) (n := 1) rfl) (hz_wg wX10_other_0 (j := 5) (n := 65) rfl) rfl
theorem dX10_other_6 : decode cX10_other 6 = .ok (.iconst 1, 1) := dq_4 (hz_wg wX10_other_0 (j := 6) (n := 4) rfl)
theorem dX10_other_7 : decode cX10_other 7 = .ok (.isub, 1) := dq_100 (hz_wg wX10_other_0 (j := 7) (n := 100) rfl)
theorem dX10_other_8 : decode cX10_other 8 = .ok (.invokestatic 228, 3) := dq_184 (hz_wg wX10_other_0 (j := 8) (n := 184) rfl) (hz_wg wX10_other_0 (j := 9) (n := 0) rfl) (hz_wg wX10_other_0 (j := 10) (n := 228) rfl) rfl
theorem dX10_other_11 : decode cX10_other 11 = .ok (.ifCond .eq 13, 3) := dq_153 (hz_wg wX10_other_0 (j := 11) (n := 153) rfl) (hz_wg wX10_other_0 (j := 12) (n := 0) rfl) (hz_wg wX10_other_0 (j := 13) (n := 13) rfl) (by decide)
theorem dX10_other_14 : decode cX10_other 14 = .ok (.iload_n 2, 1) := dq_28 (hz_wg wX10_other_0 (j := 14) (n := 28) rfl)
theorem dX10_other_15 : decode cX10_other 15 = .ok (.iconst 1, 1) := dq_4 (hz_wg wX10_other_0 (j := 15) (n := 4) rfl)
theorem dX10_other_16 : decode cX10_other 16 = .ok (.bipush 6, 2) := dq_16 (hz_wg wX10_other_0 (j := 16) (n := 16) rfl) (hz_wg wX10_other_0 (j := 17) (n := 6) rfl) (by decide)
theorem dX10_other_18 : decode cX10_other 18 = .ok (.invokestatic 228, 3) := dq_184 (hz_wg wX10_other_0 (j := 18) (n := 184) rfl) (hz_wg wX10_other_0 (j := 19) (n := 0) rfl) (hz_wg wX10_other_0 (j := 20) (n := 228) rfl) rfl
theorem dX10_other_21 : decode cX10_other 21 = .ok (.ifCond .ne 5, 3) := dq_154 (hz_wg wX10_other_0 (j := 21) (n := 154) rfl) (hz_wg wX10_other_0 (j := 22) (n := 0) rfl) (hz_wg wX10_other_0 (j := 23) (n := 5) rfl) (by decide)
theorem dX10_other_24 : decode cX10_other 24 = .ok (.iconst (-1), 1) := dq_2 (hz_wg wX10_other_0 (j := 24) (n := 2) rfl)
theorem dX10_other_25 : decode cX10_other 25 = .ok (.ireturn, 1) := dq_172 (hz_wg wX10_other_0 (j := 25) (n := 172) rfl)
theorem dX10_other_26 : decode cX10_other 26 = .ok (.iload_n 1, 1) := dq_27 (hz_wg wX10_other_0 (j := 26) (n := 27) rfl)
theorem dX10_other_27 : decode cX10_other 27 = .ok (.iconst 1, 1) := dq_4 (hz_wg wX10_other_0 (j := 27) (n := 4) rfl)
theorem dX10_other_28 : decode cX10_other 28 = .ok (.iadd, 1) := dq_96 (hz_wg wX10_other_0 (j := 28) (n := 96) rfl)
theorem dX10_other_29 : decode cX10_other 29 = .ok (.istore_n 3, 1) := dq_62 (hz_wg wX10_other_0 (j := 29) (n := 62) rfl)
theorem dX10_other_30 : decode cX10_other 30 = .ok (.iconst 0, 1) := dq_3 (hz_wg wX10_other_0 (j := 30) (n := 3) rfl)
theorem dX10_other_31 : decode cX10_other 31 = .ok (.istore 4, 2) := dq_54 (hz_wg wX10_other_0 (j := 31) (n := 54) rfl) (hz_wg wX10_other_0 (j := 32) (n := 4) rfl)
theorem dX10_other_33 : decode cX10_other 33 = .ok (.iconst 0, 1) := dq_3 (hz_wg wX10_other_0 (j := 33) (n := 3) rfl)
theorem dX10_other_34 : decode cX10_other 34 = .ok (.istore 5, 2) := dq_54 (hz_wg wX10_other_0 (j := 34) (n := 54) rfl) (hz_wg wX10_other_0 (j := 35) (n := 5) rfl)
theorem dX10_other_36 : decode cX10_other 36 = .ok (.iconst 0, 1) := dq_3 (hz_wg wX10_other_0 (j := 36) (n := 3) rfl)
theorem dX10_other_37 : decode cX10_other 37 = .ok (.istore 6, 2) := dq_54 (hz_wg wX10_other_0 (j := 37) (n := 54) rfl) (hz_wg wX10_other_0 (j := 38) (n := 6) rfl)
theorem dX10_other_39 : decode cX10_other 39 = .ok (.iload 6, 2) := dq_21 (hz_wg wX10_other_0 (j := 39) (n := 21) rfl) (hz_wg wX10_other_0 (j := 40) (n := 6) rfl)
theorem dX10_other_41 : decode cX10_other 41 = .ok (.aload_n 0, 1) := dq_42 (hz_wg wX10_other_0 (j := 41) (n := 42) rfl)
theorem dX10_other_42 : decode cX10_other 42 = .ok (.getfield 392, 3) := dq_180 (hz_wg wX10_other_0 (j := 42) (n := 180) rfl) (hz_wg wX10_other_0 (j := 43) (n := 1) rfl) (hz_wg wX10_other_0 (j := 44) (n := 136) rfl) rfl
theorem dX10_other_45 : decode cX10_other 45 = .ok (.if_icmp .ge 89, 3) := dq_162 (hz_wg wX10_other_0 (j := 45) (n := 162) rfl) (hz_wg wX10_other_0 (j := 46) (n := 0) rfl) (hz_wg wX10_other_0 (j := 47) (n := 89) rfl) (by decide)
theorem dX10_other_48 : decode cX10_other 48 = .ok (.aload_n 0, 1) := dq_42 (hz_wg wX10_other_0 (j := 48) (n := 42) rfl)
theorem dX10_other_49 : decode cX10_other 49 = .ok (.getfield 141, 3) := dq_180 (hz_wg wX10_other_0 (j := 49) (n := 180) rfl) (hz_wg wX10_other_0 (j := 50) (n := 0) rfl) (hz_wg wX10_other_0 (j := 51) (n := 141) rfl) rfl
theorem dX10_other_52 : decode cX10_other 52 = .ok (.iload 6, 2) := dq_21 (hz_wg wX10_other_0 (j := 52) (n := 21) rfl) (hz_wg wX10_other_0 (j := 53) (n := 6) rfl)
theorem dX10_other_54 : decode cX10_other 54 = .ok (.iaload, 1) := dq_46 (hz_wg wX10_other_0 (j := 54) (n := 46) rfl)
theorem dX10_other_55 : decode cX10_other 55 = .ok (.istore 7, 2) := dq_54 (hz_wg wX10_other_0 (j := 55) (n := 54) rfl) (hz_wg wX10_other_0 (j := 56) (n := 7) rfl)
theorem dX10_other_57 : decode cX10_other 57 = .ok (.aload_n 0, 1) := dq_42 (hz_wg wX10_other_0 (j := 57) (n := 42) rfl)
theorem dX10_other_58 : decode cX10_other 58 = .ok (.iload 7, 2) := dq_21 (hz_wg wX10_other_0 (j := 58) (n := 21) rfl) (hz_wg wX10_other_0 (j := 59) (n := 7) rfl)
theorem dX10_other_60 : decode cX10_other 60 = .ok (.iload_n 3, 1) := dq_29 (hz_wg wX10_other_0 (j := 60) (n := 29) rfl)
theorem dX10_other_61 : decode cX10_other 61 = .ok (.invokevirtual 395, 3) := dq_182 (hz_wg wX10_other_0 (j := 61) (n := 182) rfl) (hz_wg wX10_other_0 (j := 62) (n := 1) rfl) (hz_wg wX10_other_0 (j := 63) (n := 139) rfl) rfl
theorem dX10_other_64 : decode cX10_other 64 = .ok (.istore 8, 2) := dq_54 (hz_wg wX10_other_1 (j := 0) (n := 54) rfl) (hz_wg wX10_other_1 (j := 1) (n := 8) rfl)
theorem dX10_other_66 : decode cX10_other 66 = .ok (.iload 4, 2) := dq_21 (hz_wg wX10_other_1 (j := 2) (n := 21) rfl) (hz_wg wX10_other_1 (j := 3) (n := 4) rfl)
theorem dX10_other_68 : decode cX10_other 68 = .ok (.iload 8, 2) := dq_21 (hz_wg wX10_other_1 (j := 4) (n := 21) rfl) (hz_wg wX10_other_1 (j := 5) (n := 8) rfl)
theorem dX10_other_70 : decode cX10_other 70 = .ok (.iload_n 2, 1) := dq_28 (hz_wg wX10_other_1 (j := 6) (n := 28) rfl)
theorem dX10_other_71 : decode cX10_other 71 = .ok (.if_icmp .ne 7, 3) := dq_160 (hz_wg wX10_other_1 (j := 7) (n := 160) rfl) (hz_wg wX10_other_1 (j := 8) (n := 0) rfl) (hz_wg wX10_other_1 (j := 9) (n := 7) rfl) (by decide)
theorem dX10_other_74 : decode cX10_other 74 = .ok (.iconst 1, 1) := dq_4 (hz_wg wX10_other_1 (j := 10) (n := 4) rfl)
theorem dX10_other_75 : decode cX10_other 75 = .ok (.goto 4, 3) := dq_167 (hz_wg wX10_other_1 (j := 11) (n := 167) rfl) (hz_wg wX10_other_1 (j := 12) (n := 0) rfl) (hz_wg wX10_other_1 (j := 13) (n := 4) rfl) (by decide)
theorem dX10_other_78 : decode cX10_other 78 = .ok (.iconst 0, 1) := dq_3 (hz_wg wX10_other_1 (j := 14) (n := 3) rfl)
theorem dX10_other_79 : decode cX10_other 79 = .ok (.iadd, 1) := dq_96 (hz_wg wX10_other_1 (j := 15) (n := 96) rfl)
theorem dX10_other_80 : decode cX10_other 80 = .ok (.istore 4, 2) := dq_54 (hz_wg wX10_other_1 (j := 16) (n := 54) rfl) (hz_wg wX10_other_1 (j := 17) (n := 4) rfl)
theorem dX10_other_82 : decode cX10_other 82 = .ok (.iload 5, 2) := dq_21 (hz_wg wX10_other_1 (j := 18) (n := 21) rfl) (hz_wg wX10_other_1 (j := 19) (n := 5) rfl)
theorem dX10_other_84 : decode cX10_other 84 = .ok (.aload_n 0, 1) := dq_42 (hz_wg wX10_other_1 (j := 20) (n := 42) rfl)
theorem dX10_other_85 : decode cX10_other 85 = .ok (.getfield 105, 3) := dq_180 (hz_wg wX10_other_1 (j := 21) (n := 180) rfl) (hz_wg wX10_other_1 (j := 22) (n := 0) rfl) (hz_wg wX10_other_1 (j := 23) (n := 105) rfl) rfl
theorem dX10_other_88 : decode cX10_other 88 = .ok (.iload 7, 2) := dq_21 (hz_wg wX10_other_1 (j := 24) (n := 21) rfl) (hz_wg wX10_other_1 (j := 25) (n := 7) rfl)
theorem dX10_other_90 : decode cX10_other 90 = .ok (.iaload, 1) := dq_46 (hz_wg wX10_other_1 (j := 26) (n := 46) rfl)
theorem dX10_other_91 : decode cX10_other 91 = .ok (.aload_n 0, 1) := dq_42 (hz_wg wX10_other_1 (j := 27) (n := 42) rfl)
theorem dX10_other_92 : decode cX10_other 92 = .ok (.iload_n 3, 1) := dq_29 (hz_wg wX10_other_1 (j := 28) (n := 29) rfl)
theorem dX10_other_93 : decode cX10_other 93 = .ok (.bipush 9, 2) := dq_16 (hz_wg wX10_other_1 (j := 29) (n := 16) rfl) (hz_wg wX10_other_1 (j := 30) (n := 9) rfl) (by decide)
theorem dX10_other_95 : decode cX10_other 95 = .ok (.invokevirtual 333, 3) := dq_182 (hz_wg wX10_other_1 (j := 31) (n := 182) rfl) (hz_wg wX10_other_1 (j := 32) (n := 1) rfl) (hz_wg wX10_other_1 (j := 33) (n := 77) rfl) rfl
theorem dX10_other_98 : decode cX10_other 98 = .ok (.imul, 1) := dq_104 (hz_wg wX10_other_1 (j := 34) (n := 104) rfl)
theorem dX10_other_99 : decode cX10_other 99 = .ok (.aload_n 0, 1) := dq_42 (hz_wg wX10_other_1 (j := 35) (n := 42) rfl)
theorem dX10_other_100 : decode cX10_other 100 = .ok (.iload_n 3, 1) := dq_29 (hz_wg wX10_other_1 (j := 36) (n := 29) rfl)
theorem dX10_other_101 : decode cX10_other 101 = .ok (.bipush 10, 2) := dq_16 (hz_wg wX10_other_1 (j := 37) (n := 16) rfl) (hz_wg wX10_other_1 (j := 38) (n := 10) rfl) (by decide)
theorem dX10_other_103 : decode cX10_other 103 = .ok (.invokevirtual 333, 3) := dq_182 (hz_wg wX10_other_1 (j := 39) (n := 182) rfl) (hz_wg wX10_other_1 (j := 40) (n := 1) rfl) (hz_wg wX10_other_1 (j := 41) (n := 77) rfl) rfl
theorem dX10_other_106 : decode cX10_other 106 = .ok (.iadd, 1) := dq_96 (hz_wg wX10_other_1 (j := 42) (n := 96) rfl)
theorem dX10_other_107 : decode cX10_other 107 = .ok (.iload 8, 2) := dq_21 (hz_wg wX10_other_1 (j := 43) (n := 21) rfl) (hz_wg wX10_other_1 (j := 44) (n := 8) rfl)
theorem dX10_other_109 : decode cX10_other 109 = .ok (.iconst 5, 1) := dq_8 (hz_wg wX10_other_1 (j := 45) (n := 8) rfl)
theorem dX10_other_110 : decode cX10_other 110 = .ok (.if_icmp .ne 13, 3) := dq_160 (hz_wg wX10_other_1 (j := 46) (n := 160) rfl) (hz_wg wX10_other_1 (j := 47) (n := 0) rfl) (hz_wg wX10_other_1 (j := 48) (n := 13) rfl) (by decide)
theorem dX10_other_113 : decode cX10_other 113 = .ok (.aload_n 0, 1) := dq_42 (hz_wg wX10_other_1 (j := 49) (n := 42) rfl)
theorem dX10_other_114 : decode cX10_other 114 = .ok (.iload_n 3, 1) := dq_29 (hz_wg wX10_other_1 (j := 50) (n := 29) rfl)
theorem dX10_other_115 : decode cX10_other 115 = .ok (.bipush 11, 2) := dq_16 (hz_wg wX10_other_1 (j := 51) (n := 16) rfl) (hz_wg wX10_other_1 (j := 52) (n := 11) rfl) (by decide)
theorem dX10_other_117 : decode cX10_other 117 = .ok (.invokevirtual 333, 3) := dq_182 (hz_wg wX10_other_1 (j := 53) (n := 182) rfl) (hz_wg wX10_other_1 (j := 54) (n := 1) rfl) (hz_wg wX10_other_1 (j := 55) (n := 77) rfl) rfl
theorem dX10_other_120 : decode cX10_other 120 = .ok (.goto 4, 3) := dq_167 (hz_wg wX10_other_1 (j := 56) (n := 167) rfl) (hz_wg wX10_other_1 (j := 57) (n := 0) rfl) (hz_wg wX10_other_1 (j := 58) (n := 4) rfl) (by decide)
theorem dX10_other_123 : decode cX10_other 123 = .ok (.iconst 0, 1) := dq_3 (hz_wg wX10_other_1 (j := 59) (n := 3) rfl)
theorem dX10_other_124 : decode cX10_other 124 = .ok (.iadd, 1) := dq_96 (hz_wg wX10_other_1 (j := 60) (n := 96) rfl)
theorem dX10_other_125 : decode cX10_other 125 = .ok (.iadd, 1) := dq_96 (hz_wg wX10_other_1 (j := 61) (n := 96) rfl)
theorem dX10_other_126 : decode cX10_other 126 = .ok (.istore 5, 2) := dq_54 (hz_wg wX10_other_1 (j := 62) (n := 54) rfl) (hz_wg wX10_other_1 (j := 63) (n := 5) rfl)
theorem dX10_other_128 : decode cX10_other 128 = .ok (.iinc 6 1, 3) := dq_132 (hz_wg wX10_other_2 (j := 0) (n := 132) rfl) (hz_wg wX10_other_2 (j := 1) (n := 6) rfl) (hz_wg wX10_other_2 (j := 2) (n := 1) rfl) (by decide)
theorem dX10_other_131 : decode cX10_other 131 = .ok (.goto (-92), 3) := dq_167 (hz_wg wX10_other_2 (j := 3) (n := 167) rfl) (hz_wg wX10_other_2 (j := 4) (n := 255) rfl) (hz_wg wX10_other_2 (j := 5) (n := 164) rfl) (by decide)
theorem dX10_other_134 : decode cX10_other 134 = .ok (.iload_n 2, 1) := dq_28 (hz_wg wX10_other_2 (j := 6) (n := 28) rfl)
theorem dX10_other_135 : decode cX10_other 135 = .ok (.bipush 6, 2) := dq_16 (hz_wg wX10_other_2 (j := 7) (n := 16) rfl) (hz_wg wX10_other_2 (j := 8) (n := 6) rfl) (by decide)
theorem dX10_other_137 : decode cX10_other 137 = .ok (.if_icmp .ne 8, 3) := dq_160 (hz_wg wX10_other_2 (j := 9) (n := 160) rfl) (hz_wg wX10_other_2 (j := 10) (n := 0) rfl) (hz_wg wX10_other_2 (j := 11) (n := 8) rfl) (by decide)
theorem dX10_other_140 : decode cX10_other 140 = .ok (.iload 5, 2) := dq_21 (hz_wg wX10_other_2 (j := 12) (n := 21) rfl) (hz_wg wX10_other_2 (j := 13) (n := 5) rfl)
theorem dX10_other_142 : decode cX10_other 142 = .ok (.goto 5, 3) := dq_167 (hz_wg wX10_other_2 (j := 14) (n := 167) rfl) (hz_wg wX10_other_2 (j := 15) (n := 0) rfl) (hz_wg wX10_other_2 (j := 16) (n := 5) rfl) (by decide)
theorem dX10_other_145 : decode cX10_other 145 = .ok (.iload 4, 2) := dq_21 (hz_wg wX10_other_2 (j := 17) (n := 21) rfl) (hz_wg wX10_other_2 (j := 18) (n := 4) rfl)
theorem dX10_other_147 : decode cX10_other 147 = .ok (.ireturn, 1) := dq_172 (hz_wg wX10_other_2 (j := 19) (n := 172) rfl)
set_option maxHeartbeats 4000000 in
set_option maxRecDepth 100000 in
theorem t_X10_other (l : Launch) (dC : Nat → ClassId) (dI : Nat → Nat → Nat) (dA : Nat → ClassId) (L : List Nat) (h : hx_h) (sz : Nat) (x : Nat) (i1 : Int32) (i2 : Int32) (hT : hx_T T_tb L h) (gx : hx_g L h x 10) (qn : Nat) (gqn : hx_g L h qn 51) (f_x_4 : h.2.2 x 4 = some qn) (qp : Nat) (gqp : hx_g L h qp 52) (f_x_5 : h.2.2 x 5 = some qp) (psf : Nat → Int32) (af_qn : h.2.1 qn = psf) (prf : Nat → Int32) (af_qp : h.2.1 qp = prf) (a0 : Int32) (f_x_1 : h.2.1 x 1 = a0) (hRP : hx_RP prf psf a0.toInt) : Met l yX10_other (Cond.code yX10_other cX10_other 9 (some .int) :: hx_all) ({ frames := 3, cells := 0, slots := 0, locals := 72 }) (va_Pc [.ref x, .int i1, .int i2] (hx_B T_tb (P_ty dA) (dC, dI) vwCl L h sz)) (va_Qi (fun (r : Int32) (u : List Nat × hx_h) => (True) ∧ hx_T T_tb u.1 u.2 ∧ hx_S T_tb [(99, 0)] L h u.1 u.2) (hx_E T_tb (P_ty dA) (dC, dI) vwCl (hx_A L sz)) (hx_A L sz)) 0 0 (hx_A L sz) := by
  refine hx_met (lv := [(0, .ref x), (1, .int i1), (2, .int i2)]) (by decide +kernel) rfl (Nat.le_of_ble_eq_true rfl) rfl ?_
  intro p e s m below meth c hx hb hml hr hlk hts0 hown hin hsz hW ls hl
  have hts : ∀ w ∈ hx_all, w.before _ s = true := fun w hw => hts0 w (List.mem_cons_of_mem _ hw)
  have hown : s.vm.findClass "SmallCourtModel" = some m.cls := hown
  have hM : hx_S T_tb [(99, 0)] L h L h := hx_S.rf
  have b_a0 := hT.gi gx tt_10 (k := 1) rfl
  rw [f_x_1] at b_a0
  have b_a0 : 0 ≤ a0.toInt ∧ a0.toInt ≤ 8 := b_a0
  refine lv_iload_n hx hb dX10_other_0 rfl (lv_at hl 1 rfl) ?_
  refine lv_iconst (v := -1) hx hb dX10_other_1 (by decide) ?_
  refine lv_aload_n hx hb dX10_other_2 rfl (lv_at hl 0 rfl) ?_
  refine hk_geti hx hb hts hC_10 hown hW (gx.S hM) tt_10 1 (by decide) rfl kw_1144 ⟨rfl, rfl, rfl⟩ ((hM.o gx trivial rfl).1.trans f_x_1) dX10_other_3 ?_
  refine lv_iconst (v := 1) hx hb dX10_other_6 (by decide) ?_
  refine lv_isub hx hb dX10_other_7 ?_
  have rg_1 := i32_r a0
  refine lv_topi (fun x_2 ex_2 => ?_)
  have zx_2 : x_2.toInt = a0.toInt - 1 := by rw [ex_2]; exact i32_sub rfl (by decide) (by omega) (by omega)
  have zc_m1 : (-1 : Int32).toInt = -1 := by decide
  refine hx_goi (hx_runS (As := [.int i1, .int (-1 : Int32), .int x_2]) (rest := []) ⟨hx, hb, hml, hown, hts⟩ hW (t_X10_in l dC dI dA L h s.heap.size i1 (-1 : Int32) x_2 hT) (va_cwS 3 hts (hx_gS kw_1445 kw_1443 kw_1444 kw_103) rfl rfl rfl (by decide +kernel) ⟨Nat.le_of_ble_eq_true rfl, Nat.le_of_ble_eq_true rfl⟩) rfl hl.1 rfl (Nat.le_of_ble_eq_true rfl) dX10_other_8 ⟨Nat.le_of_ble_eq_true rfl, Nat.le_of_ble_eq_true rfl⟩) hW (fun r_5 L_3 h_4 H locs p_6 hW => ?_)
  obtain ⟨hr_7, hT, hs⟩ := p_6
  replace hT : hx_T T_tb L_3 h_4 := hT
  replace hs : hx_S T_tb [] L h L_3 h_4 := hs
  replace hM := hM.tr (hs.mono (by decide))
  refine hb_if_eq (zx := r_5.toInt) (tgt := 24) hx hb rfl dX10_other_11 (by decide) (fun c_8 => ?_) (fun c_8 => ?_)
  · skip
    replace hr_7 := hr_7.resolve_right (fun z9 => absurd (c_8.symm.trans z9.1) (by decide))
    replace hr_7 := hr_7.2
    refine lv_iconst (v := -1) hx hb dX10_other_24 (by decide) ?_
    exact hx_reti hx hb hr hlk hW ⟨trivial, hT, hM⟩ dX10_other_25
  · skip
    replace hr_7 := hr_7.resolve_left (fun z9 => c_8 z9.1)
    replace c_8 := hr_7.1
    replace hr_7 := hr_7.2
    refine lv_iload_n hx hb dX10_other_14 rfl (lv_at hl 2 rfl) ?_
    refine lv_iconst (v := 1) hx hb dX10_other_15 (by decide) ?_
    refine lv_bipush (v := 6) hx hb dX10_other_16 (by decide) ?_
    have zc_6 : (6 : Int32).toInt = 6 := by decide
    have zc_1 : (1 : Int32).toInt = 1 := by decide
    refine hx_goi (hx_runS (As := [.int i2, .int (1 : Int32), .int (6 : Int32)]) (rest := []) ⟨hx, hb, hml, hown, hts⟩ hW (t_X10_in l dC dI dA L_3 h_4 H.size i2 (1 : Int32) (6 : Int32) hT) (va_cwS 3 hts (hx_gS kw_1445 kw_1443 kw_1444 kw_103) rfl rfl rfl (by decide +kernel) ⟨Nat.le_of_ble_eq_true rfl, Nat.le_of_ble_eq_true rfl⟩) rfl hl.1 rfl (Nat.le_of_ble_eq_true rfl) dX10_other_18 ⟨Nat.le_of_ble_eq_true rfl, Nat.le_of_ble_eq_true rfl⟩) hW (fun r_11 L_9 h_10 H locs p_12 hW => ?_)
    obtain ⟨hr_13, hT, hs⟩ := p_12
    replace hT : hx_T T_tb L_9 h_10 := hT
    replace hs : hx_S T_tb [] L_3 h_4 L_9 h_10 := hs
    replace hM := hM.tr (hs.mono (by decide))
    refine hb_if_ne (zx := r_11.toInt) (tgt := 26) hx hb rfl dX10_other_21 (by decide) (fun c_14 => ?_) (fun c_14 => ?_)
    · skip
      replace hr_13 := hr_13.resolve_left (fun z9 => c_14 z9.1)
      replace c_14 := hr_13.1
      replace hr_13 := hr_13.2
      refine lv_iload_n hx hb dX10_other_26 rfl (lv_at hl 1 rfl) ?_
      refine lv_iconst (v := 1) hx hb dX10_other_27 (by decide) ?_
      refine lv_iadd hx hb dX10_other_28 ?_
      have rg_15 := i32_r i1
      refine lv_topi (fun x_16 ex_16 => ?_)
      have zx_16 : x_16.toInt = i1.toInt + 1 := by rw [ex_16]; exact i32_add rfl (by decide) (by omega) (by omega)
      refine lv_istore_n (lv' := [(3, .int x_16), (0, .ref x), (1, .int i1), (2, .int i2)]) hx hb dX10_other_29 rfl hl (by decide) rfl (fun ls hl => ?_)
      refine lv_iconst (v := 0) hx hb dX10_other_30 (by decide) ?_
      refine lv_istore (lv' := [(4, .int (0 : Int32)), (3, .int x_16), (0, .ref x), (1, .int i1), (2, .int i2)]) hx hb dX10_other_31 hl (by decide) rfl (fun ls hl => ?_)
      refine lv_iconst (v := 0) hx hb dX10_other_33 (by decide) ?_
      refine lv_istore (lv' := [(5, .int (0 : Int32)), (4, .int (0 : Int32)), (3, .int x_16), (0, .ref x), (1, .int i1), (2, .int i2)]) hx hb dX10_other_34 hl (by decide) rfl (fun ls hl => ?_)
      refine lv_iconst (v := 0) hx hb dX10_other_36 (by decide) ?_
      refine lv_istore (lv' := [(6, .int (0 : Int32)), (5, .int (0 : Int32)), (4, .int (0 : Int32)), (3, .int x_16), (0, .ref x), (1, .int i1), (2, .int i2)]) hx hb dX10_other_37 hl (by decide) rfl (fun ls hl => ?_)
      have loop39 : ∀ (n39 : Nat) (iv39_4 iv39_5 iv39_6 : Int32) (H : Heap) (locs : List Loc) (hL1 : List Nat) (hl1 : hx_h), -2147483648 ≤ iv39_4.toInt → iv39_4.toInt ≤ 2147483647 → -2147483648 ≤ iv39_5.toInt → iv39_5.toInt ≤ 2147483647 → 0 ≤ iv39_6.toInt → iv39_6.toInt ≤ 100 → ∀ (ls : Array Slot), 100 - iv39_6.toInt < (n39 : Int) → hx_W T_tb (P_ty dA) (dC, dI) vwCl (hx_A L sz) s.heap hL1 hl1 s H locs → hx_T T_tb hL1 hl1 → hx_S T_tb [(99, 0)] L h hL1 hl1 → lv_has ls 9 [(6, .int iv39_6), (5, .int iv39_5), (4, .int iv39_4), (3, .int x_16), (0, .ref x), (1, .int i1), (2, .int i2)] → W p l e ({ frames := 3, cells := 0, slots := 0, locals := 72 }) s m ([.ref x, .int i1, .int i2] : List Value).toArray below meth c H locs 0 0 (MQ below (va_Qi (fun (r : Int32) (u : List Nat × hx_h) => (True) ∧ hx_T T_tb u.1 u.2 ∧ hx_S T_tb [(99, 0)] L h u.1 u.2) (hx_E T_tb (P_ty dA) (dC, dI) vwCl (hx_A L sz)) (hx_A L sz)) ([.ref x, .int i1, .int i2] : List Value).toArray s 0 0 (hx_A L sz)) (F0 m 39 ls []) := by
        intro n39
        induction n39 with
        | zero => intro iv39_4 iv39_5 iv39_6 H locs hL1 hl1 bliv39_4 buiv39_4 bliv39_5 buiv39_5 bliv39_6 buiv39_6  ls hn39; exfalso; omega
        | succ n39 ih39 =>
          intro iv39_4 iv39_5 iv39_6 H locs hL1 hl1 bliv39_4 buiv39_4 bliv39_5 buiv39_5 bliv39_6 buiv39_6  ls hn39 hW hT hM   hl
          refine lv_iload hx hb dX10_other_39 (lv_at hl 0 rfl) ?_
          refine lv_aload_n hx hb dX10_other_41 rfl (lv_at hl 4 rfl) ?_
          refine hx_geti hx hb hts hC_10 hown hW hT (gx.S hM) tt_10 57 (by decide) rfl kw_1200 ⟨rfl, rfl, rfl⟩ dX10_other_42 (fun x_17 ex_17 lx_17 ux_17 => ?_)
          have fx_17 := ex_17.symm
          refine hb_icmp_ge (zx := iv39_6.toInt) (zy := x_17.toInt) (tgt := 134) hx hb rfl rfl dX10_other_45 (by decide) (fun c_18 => ?_) (fun c_18 => ?_)
          · skip
            refine lv_iload_n hx hb dX10_other_134 rfl (lv_at hl 6 rfl) ?_
            refine lv_bipush (v := 6) hx hb dX10_other_135 (by decide) ?_
            refine hb_icmp_ne (zx := i2.toInt) (zy := 6) (tgt := 145) hx hb rfl (by decide) dX10_other_137 (by decide) (fun c_19 => ?_) (fun c_19 => ?_)
            · skip
              refine lv_iload hx hb dX10_other_145 (lv_at hl 2 rfl) ?_
              exact hx_reti hx hb hr hlk hW ⟨trivial, hT, hM⟩ dX10_other_147
            · skip
              refine lv_iload hx hb dX10_other_140 (lv_at hl 1 rfl) ?_
              refine lv_goto (tgt := 147) hx hb dX10_other_142 (by decide) ?_
              exact hx_reti hx hb hr hlk hW ⟨trivial, hT, hM⟩ dX10_other_147
          · skip
            refine lv_aload_n hx hb dX10_other_48 rfl (lv_at hl 4 rfl) ?_
            refine hx_getn hx hb hts hC_10 hown hW hT (gx.S hM) tt_10 58 (by decide) rfl kw_1201 ⟨rfl, rfl, rfl⟩ dX10_other_49 (fun q_20 fq_20 gq_20 => ?_)
            refine lv_iload hx hb dX10_other_52 (lv_at hl 0 rfl) ?_
            refine hx_iald hx hb hW hT gq_20 tt_92 rfl ⟨by omega, by omega⟩ dX10_other_54 (fun x_21 ex_21 lx_21 ux_21 => ?_)
            refine lv_istore (lv' := [(7, .int x_21), (6, .int iv39_6), (5, .int iv39_5), (4, .int iv39_4), (3, .int x_16), (0, .ref x), (1, .int i1), (2, .int i2)]) hx hb dX10_other_55 hl (by decide) rfl (fun ls hl => ?_)
            refine lv_aload_n hx hb dX10_other_57 rfl (lv_at hl 5 rfl) ?_
            refine lv_iload hx hb dX10_other_58 (lv_at hl 0 rfl) ?_
            refine lv_iload_n hx hb dX10_other_60 rfl (lv_at hl 4 rfl) ?_
            refine hx_goi (hx_runV (As := [.int x_21, .int x_16]) (rest := []) ⟨hx, hb, hml, hown, hts⟩ hW (gx.S hM) tt_10 (T := TX10) (N := 98) rfl (t_X10_judges l dC dI dA hL1 hl1 H.size x x_21 x_16 hT (gx.S hM) qn (gqn.S hM) ((hM.o gx trivial rfl).2.trans f_x_4) qp (gqp.S hM) ((hM.o gx trivial rfl).2.trans f_x_5) psf (hx_afS hM gqn rfl af_qn) prf (hx_afS hM gqp rfl af_qp) a0 ((hM.o gx trivial rfl).1.trans f_x_1) ⟨by omega, by omega⟩ ⟨by omega, by omega⟩ hRP) (cwV 2 hts (hx_gV kw_1617 kw_1614 kw_1616 kw_77 kw_103) rfl rfl rfl (by decide +kernel) ⟨Nat.le_of_ble_eq_true rfl, Nat.le_of_ble_eq_true rfl⟩) rfl hl.1 rfl (Nat.le_of_ble_eq_true rfl) dX10_other_61 ⟨Nat.le_of_ble_eq_true rfl, Nat.le_of_ble_eq_true rfl⟩) hW (fun r_24 L_22 h_23 H locs p_25 hW => ?_)
            obtain ⟨hr_26, hT, hs⟩ := p_25
            replace hT : hx_T T_tb L_22 h_23 := hT
            replace hs : hx_S T_tb [(99, 0)] hL1 hl1 L_22 h_23 := hs
            replace fx_17 := (hs.o (gx.S hM) trivial rfl).1.trans fx_17
            replace fq_20 := (hs.o (gx.S hM) trivial rfl).2.trans fq_20
            replace ex_21 := ex_21.trans (hs.a gq_20 rfl _).1.symm
            replace hM := hM.tr (hs.mono (by decide))
            replace gq_20 := gq_20.S hs
            refine lv_istore (lv' := [(8, .int r_24), (7, .int x_21), (6, .int iv39_6), (5, .int iv39_5), (4, .int iv39_4), (3, .int x_16), (0, .ref x), (1, .int i1), (2, .int i2)]) hx hb dX10_other_64 hl (by decide) rfl (fun ls hl => ?_)
            refine lv_iload hx hb dX10_other_66 (lv_at hl 4 rfl) ?_
            refine lv_iload hx hb dX10_other_68 (lv_at hl 0 rfl) ?_
            refine lv_iload_n hx hb dX10_other_70 rfl (lv_at hl 8 rfl) ?_
            have jn_79 : ∀ (xj_27 : Int32) (ls : Array Slot), 0 ≤ xj_27.toInt → xj_27.toInt ≤ 1 → lv_has ls 9 [(8, .int r_24), (7, .int x_21), (6, .int iv39_6), (5, .int iv39_5), (4, .int iv39_4), (3, .int x_16), (0, .ref x), (1, .int i1), (2, .int i2)] → W p l e ({ frames := 3, cells := 0, slots := 0, locals := 72 }) s m ([.ref x, .int i1, .int i2] : List Value).toArray below meth c H locs 0 0 (MQ below (va_Qi (fun (r : Int32) (u : List Nat × hx_h) => (True) ∧ hx_T T_tb u.1 u.2 ∧ hx_S T_tb [(99, 0)] L h u.1 u.2) (hx_E T_tb (P_ty dA) (dC, dI) vwCl (hx_A L sz)) (hx_A L sz)) ([.ref x, .int i1, .int i2] : List Value).toArray s 0 0 (hx_A L sz)) (F0 m 79 ls [.int xj_27, .int iv39_4]) := by
              intro xj_27 ls blxj_27 buxj_27 hl
              refine lv_iadd hx hb dX10_other_79 ?_
              have rg_28 := i32_r iv39_4
              have rg_29 := i32_r xj_27
              refine lv_topi (fun x_30 ex_30 => ?_)
              refine lv_istore (lv' := [(4, .int x_30), (8, .int r_24), (7, .int x_21), (6, .int iv39_6), (5, .int iv39_5), (3, .int x_16), (0, .ref x), (1, .int i1), (2, .int i2)]) hx hb dX10_other_80 hl (by decide) rfl (fun ls hl => ?_)
              refine lv_iload hx hb dX10_other_82 (lv_at hl 4 rfl) ?_
              refine lv_aload_n hx hb dX10_other_84 rfl (lv_at hl 6 rfl) ?_
              refine hx_getn hx hb hts hC_10 hown hW hT (gx.S hM) tt_10 45 (by decide) rfl kw_1188 ⟨rfl, rfl, rfl⟩ dX10_other_85 (fun q_31 fq_31 gq_31 => ?_)
              refine lv_iload hx hb dX10_other_88 (lv_at hl 2 rfl) ?_
              refine hx_iald hx hb hW hT gq_31 tt_80 rfl ⟨by omega, by omega⟩ dX10_other_90 (fun x_32 ex_32 lx_32 ux_32 => ?_)
              refine lv_aload_n hx hb dX10_other_91 rfl (lv_at hl 6 rfl) ?_
              refine lv_iload_n hx hb dX10_other_92 rfl (lv_at hl 5 rfl) ?_
              refine lv_bipush (v := 9) hx hb dX10_other_93 (by decide) ?_
              have zc_9 : (9 : Int32).toInt = 9 := by decide
              refine hx_goi (hx_runV (As := [.int x_16, .int (9 : Int32)]) (rest := [.int x_32, .int iv39_5]) ⟨hx, hb, hml, hown, hts⟩ hW (gx.S hM) tt_10 (T := TX10) (N := 98) rfl (t_X10_ruleOf l dC dI dA L_22 h_23 H.size x x_16 (9 : Int32) hT (gx.S hM) ⟨by omega, by omega⟩ (by decide)) (cwV 2 hts (hx_gV kw_1533 kw_1530 kw_1532 kw_66 kw_103) rfl rfl rfl (by decide +kernel) ⟨Nat.le_of_ble_eq_true rfl, Nat.le_of_ble_eq_true rfl⟩) rfl hl.1 rfl (Nat.le_of_ble_eq_true rfl) dX10_other_95 ⟨Nat.le_of_ble_eq_true rfl, Nat.le_of_ble_eq_true rfl⟩) hW (fun r_35 L_33 h_34 H locs p_36 hW => ?_)
              obtain ⟨hr_37, hT, hs⟩ := p_36
              replace hT : hx_T T_tb L_33 h_34 := hT
              replace hs : hx_S T_tb [] L_22 h_23 L_33 h_34 := hs
              replace fx_17 := (hs.o (gx.S hM) trivial rfl).1.trans fx_17
              replace fq_20 := (hs.o (gx.S hM) trivial rfl).2.trans fq_20
              replace fq_31 := (hs.o (gx.S hM) trivial rfl).2.trans fq_31
              replace ex_21 := ex_21.trans (hs.a gq_20 rfl _).1.symm
              replace ex_32 := ex_32.trans (hs.a gq_31 rfl _).1.symm
              replace hM := hM.tr (hs.mono (by decide))
              replace gq_20 := gq_20.S hs
              replace gq_31 := gq_31.S hs
              refine lv_imul hx hb dX10_other_98 ?_
              refine lv_topi (fun x_38 ex_38 => ?_)
              have mx_38 : x_32.toInt = 0 → x_38.toInt = 0 := fun z => by rw [ex_38]; exact hx_mul0 z
              refine lv_aload_n hx hb dX10_other_99 rfl (lv_at hl 6 rfl) ?_
              refine lv_iload_n hx hb dX10_other_100 rfl (lv_at hl 5 rfl) ?_
              refine lv_bipush (v := 10) hx hb dX10_other_101 (by decide) ?_
              have zc_10 : (10 : Int32).toInt = 10 := by decide
              refine hx_goi (hx_runV (As := [.int x_16, .int (10 : Int32)]) (rest := [.int x_38, .int iv39_5]) ⟨hx, hb, hml, hown, hts⟩ hW (gx.S hM) tt_10 (T := TX10) (N := 98) rfl (t_X10_ruleOf l dC dI dA L_33 h_34 H.size x x_16 (10 : Int32) hT (gx.S hM) ⟨by omega, by omega⟩ (by decide)) (cwV 2 hts (hx_gV kw_1533 kw_1530 kw_1532 kw_66 kw_103) rfl rfl rfl (by decide +kernel) ⟨Nat.le_of_ble_eq_true rfl, Nat.le_of_ble_eq_true rfl⟩) rfl hl.1 rfl (Nat.le_of_ble_eq_true rfl) dX10_other_103 ⟨Nat.le_of_ble_eq_true rfl, Nat.le_of_ble_eq_true rfl⟩) hW (fun r_41 L_39 h_40 H locs p_42 hW => ?_)
              obtain ⟨hr_43, hT, hs⟩ := p_42
              replace hT : hx_T T_tb L_39 h_40 := hT
              replace hs : hx_S T_tb [] L_33 h_34 L_39 h_40 := hs
              replace fx_17 := (hs.o (gx.S hM) trivial rfl).1.trans fx_17
              replace fq_20 := (hs.o (gx.S hM) trivial rfl).2.trans fq_20
              replace fq_31 := (hs.o (gx.S hM) trivial rfl).2.trans fq_31
              replace ex_21 := ex_21.trans (hs.a gq_20 rfl _).1.symm
              replace ex_32 := ex_32.trans (hs.a gq_31 rfl _).1.symm
              replace hM := hM.tr (hs.mono (by decide))
              replace gq_20 := gq_20.S hs
              replace gq_31 := gq_31.S hs
              refine lv_iadd hx hb dX10_other_106 ?_
              have rg_44 := i32_r x_38
              have rg_45 := i32_r r_41
              refine lv_topi (fun x_46 ex_46 => ?_)
              refine lv_iload hx hb dX10_other_107 (lv_at hl 1 rfl) ?_
              refine lv_iconst (v := 5) hx hb dX10_other_109 (by decide) ?_
              refine hb_icmp_ne (zx := r_24.toInt) (zy := 5) (tgt := 123) hx hb rfl (by decide) dX10_other_110 (by decide) (fun c_47 => ?_) (fun c_47 => ?_)
              · skip
                refine lv_iconst (v := 0) hx hb dX10_other_123 (by decide) ?_
                refine lv_iadd hx hb dX10_other_124 ?_
                have rg_48 := i32_r x_46
                refine lv_topi (fun x_49 ex_49 => ?_)
                refine lv_iadd hx hb dX10_other_125 ?_
                have rg_50 := i32_r iv39_5
                have rg_51 := i32_r x_49
                refine lv_topi (fun x_52 ex_52 => ?_)
                refine lv_istore (lv' := [(5, .int x_52), (4, .int x_30), (8, .int r_24), (7, .int x_21), (6, .int iv39_6), (3, .int x_16), (0, .ref x), (1, .int i1), (2, .int i2)]) hx hb dX10_other_126 hl (by decide) rfl (fun ls hl => ?_)
                obtain ⟨x_53, ex_53⟩ : ∃ y : Int32, y = iv39_6 + Int32.ofInt 1 := ⟨_, rfl⟩
                have rg_54 := i32_r iv39_6
                have zx_53 : x_53.toInt = iv39_6.toInt + (1) := by rw [ex_53]; exact i32_add rfl (by decide) (by omega) (by omega)
                refine lv_iinc (v := x_53) (lv' := [(6, .int x_53), (5, .int x_52), (4, .int x_30), (8, .int r_24), (7, .int x_21), (3, .int x_16), (0, .ref x), (1, .int i1), (2, .int i2)]) hx hb dX10_other_128 hl (k := 4) rfl ex_53.symm (by decide) rfl (fun ls hl => ?_)
                refine lv_goto (tgt := 39) hx hb dX10_other_131 (by decide) ?_
                exact ih39 x_30 x_52 x_53 _ _ L_39 h_40 (i32_r _).1 (i32_r _).2 (i32_r _).1 (i32_r _).2 (by omega) (by omega)  ls (by omega) hW hT hM   (lv_sub hl [0, 1, 2, 5, 6, 7, 8] rfl)
              · skip
                refine lv_aload_n hx hb dX10_other_113 rfl (lv_at hl 6 rfl) ?_
                refine lv_iload_n hx hb dX10_other_114 rfl (lv_at hl 5 rfl) ?_
                refine lv_bipush (v := 11) hx hb dX10_other_115 (by decide) ?_
                have zc_11 : (11 : Int32).toInt = 11 := by decide
                refine hx_goi (hx_runV (As := [.int x_16, .int (11 : Int32)]) (rest := [.int x_46, .int iv39_5]) ⟨hx, hb, hml, hown, hts⟩ hW (gx.S hM) tt_10 (T := TX10) (N := 98) rfl (t_X10_ruleOf l dC dI dA L_39 h_40 H.size x x_16 (11 : Int32) hT (gx.S hM) ⟨by omega, by omega⟩ (by decide)) (cwV 2 hts (hx_gV kw_1533 kw_1530 kw_1532 kw_66 kw_103) rfl rfl rfl (by decide +kernel) ⟨Nat.le_of_ble_eq_true rfl, Nat.le_of_ble_eq_true rfl⟩) rfl hl.1 rfl (Nat.le_of_ble_eq_true rfl) dX10_other_117 ⟨Nat.le_of_ble_eq_true rfl, Nat.le_of_ble_eq_true rfl⟩) hW (fun r_57 L_55 h_56 H locs p_58 hW => ?_)
                obtain ⟨hr_59, hT, hs⟩ := p_58
                replace hT : hx_T T_tb L_55 h_56 := hT
                replace hs : hx_S T_tb [] L_39 h_40 L_55 h_56 := hs
                replace fx_17 := (hs.o (gx.S hM) trivial rfl).1.trans fx_17
                replace fq_20 := (hs.o (gx.S hM) trivial rfl).2.trans fq_20
                replace fq_31 := (hs.o (gx.S hM) trivial rfl).2.trans fq_31
                replace ex_21 := ex_21.trans (hs.a gq_20 rfl _).1.symm
                replace ex_32 := ex_32.trans (hs.a gq_31 rfl _).1.symm
                replace hM := hM.tr (hs.mono (by decide))
                replace gq_20 := gq_20.S hs
                replace gq_31 := gq_31.S hs
                refine lv_goto (tgt := 124) hx hb dX10_other_120 (by decide) ?_
                refine lv_iadd hx hb dX10_other_124 ?_
                have rg_60 := i32_r x_46
                have rg_61 := i32_r r_57
                refine lv_topi (fun x_62 ex_62 => ?_)
                refine lv_iadd hx hb dX10_other_125 ?_
                have rg_63 := i32_r iv39_5
                have rg_64 := i32_r x_62
                refine lv_topi (fun x_65 ex_65 => ?_)
                refine lv_istore (lv' := [(5, .int x_65), (4, .int x_30), (8, .int r_24), (7, .int x_21), (6, .int iv39_6), (3, .int x_16), (0, .ref x), (1, .int i1), (2, .int i2)]) hx hb dX10_other_126 hl (by decide) rfl (fun ls hl => ?_)
                obtain ⟨x_66, ex_66⟩ : ∃ y : Int32, y = iv39_6 + Int32.ofInt 1 := ⟨_, rfl⟩
                have rg_67 := i32_r iv39_6
                have zx_66 : x_66.toInt = iv39_6.toInt + (1) := by rw [ex_66]; exact i32_add rfl (by decide) (by omega) (by omega)
                refine lv_iinc (v := x_66) (lv' := [(6, .int x_66), (5, .int x_65), (4, .int x_30), (8, .int r_24), (7, .int x_21), (3, .int x_16), (0, .ref x), (1, .int i1), (2, .int i2)]) hx hb dX10_other_128 hl (k := 4) rfl ex_66.symm (by decide) rfl (fun ls hl => ?_)
                refine lv_goto (tgt := 39) hx hb dX10_other_131 (by decide) ?_
                exact ih39 x_30 x_65 x_66 _ _ L_55 h_56 (i32_r _).1 (i32_r _).2 (i32_r _).1 (i32_r _).2 (by omega) (by omega)  ls (by omega) hW hT hM   (lv_sub hl [0, 1, 2, 5, 6, 7, 8] rfl)
            refine hb_icmp_ne (zx := r_24.toInt) (zy := i2.toInt) (tgt := 78) hx hb rfl rfl dX10_other_71 (by decide) (fun c_68 => ?_) (fun c_68 => ?_)
            · skip
              refine lv_iconst (v := 0) hx hb dX10_other_78 (by decide) ?_
              exact jn_79 (0 : Int32) ls (by decide) (by decide) hl
            · skip
              refine lv_iconst (v := 1) hx hb dX10_other_74 (by decide) ?_
              refine lv_goto (tgt := 79) hx hb dX10_other_75 (by decide) ?_
              exact jn_79 (1 : Int32) ls (by decide) (by decide) hl
      have zk_0 : (0 : Int32).toInt = 0 := by decide
      have zk_0 : (0 : Int32).toInt = 0 := by decide
      have zk_0 : (0 : Int32).toInt = 0 := by decide
      exact loop39 101 (0 : Int32) (0 : Int32) (0 : Int32) _ _ L_9 h_10 (by decide) (by decide) (by decide) (by decide) (by decide) (by decide)  ls (by omega) hW hT hM   hl
    · skip
      replace hr_13 := hr_13.resolve_right (fun z9 => absurd (c_14.symm.trans z9.1) (by decide))
      replace hr_13 := hr_13.2
      refine lv_iconst (v := -1) hx hb dX10_other_24 (by decide) ?_
      exact hx_reti hx hb hr hlk hW ⟨trivial, hT, hM⟩ dX10_other_25
